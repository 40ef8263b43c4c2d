/-! the reference reads a problem -/
theorem tr5 {F : fl_N} {l tl : List Int} (h : trm F 5 2 l tl) : rpn (F 364) (F 344 33) l ∧ rty (F 365) 0 tl := by
  rcases h with h | h
  · exact h.2.2
  · omega
theorem tr5_0 {F : fl_N} (h : F 344 33 = 0) : trm F 5 2 [] [] := Or.inl ⟨rfl, rfl, rpn_0 (a := 364) h, fun j x hx => by simp at hx⟩

abbrev pq_186s (G : Nat → Nat → Option Nat) (F : fl_N) (X : xi_H) (K : fl_N) (ts : List Int) : Outcome → xi_H → Prop := gqi (fun z A => ∃ F' : fl_N, fl_H sh_T G F' ++ X = A ∧ gi F' ∧ fs [(344, 344, 5, 5), (344, 344, 9, 10)] F F' ∧ (¬ F 344 9 = 0 → ¬ F' 344 9 = 0) ∧ (0 ≤ F' 344 5 ∧ F' 344 5 ≤ K 1 6 - 1) ∧ (0 ≤ z ∧ z ≤ 4)) gqn
theorem mc_186s {G : Nat → Nat → Option Nat} (hG : gg G) (F : fl_N) (X : xi_H) (hgi : gi F) (K : fl_N) (ts : List Int) (hgK : gi K) (hrk : rk K F) (hkt : rkt K) (hp : 0 ≤ F 344 5 ∧ F 344 5 ≤ K 1 6 - 1) (hts : rpn (F 349) (F 344 15) ts) : fl_M xi_ms 186 3 68 [.ref 344] (fl_H sh_T G F ++ X) (pq_186s G F X K ts) := fun fr lo h1 h2 => fl_mono (mc_186 hG F X hgi K ts hgK hrk hkt hp hts fr lo h1 h2) (fun o A hq => by
  match o, hq with
  | .returned (some (.int _)), ⟨z, hz, hq⟩ =>
    rcases hq with ⟨F', h, g, s, k, x_s, p, x_z⟩ | ⟨F', h, g, s, k, x_s, p, x_z⟩
    · exact ⟨z, hz, ⟨F', h, g, s, fun _ => k, p, x_z⟩⟩
    · exact ⟨z, hz, ⟨F', h, g, s, fun h9 => absurd k.2 h9, p, x_z⟩⟩
  | .returned none, hq => exact False.elim hq
  | .returned (some (.long _)), hq => exact False.elim hq
  | .returned (some (.float _)), hq => exact False.elim hq
  | .returned (some (.double _)), hq => exact False.elim hq
  | .returned (some (.ref _)), hq => exact False.elim hq
  | .returned (some .null), hq => exact False.elim hq
  | .returned (some (.retAddr _)), hq => exact False.elim hq
  | .threw _, hq => exact False.elim hq)
/- CheapPlannerModel.readObject -/
abbrev pq_180 (G : Nat → Nat → Option Nat) (F : fl_N) (X : xi_H) (K : fl_N) (ts l tl : List Int) : Outcome → xi_H → Prop := gqv (fun A => ∃ F' : fl_N, fl_H sh_T G F' ++ X = A ∧ gi F' ∧ fs [(344, 344, 5, 5), (344, 344, 9, 10), (344, 344, 33, 33), (364, 365, 0, 100000)] F F' ∧ (¬ F 344 9 = 0 → ¬ F' 344 9 = 0) ∧ (0 ≤ F' 344 5 ∧ F' 344 5 ≤ K 1 6 - 1) ∧ (∃ l tl, trm F' 5 2 l tl ∧ l.length = tl.length) ∧ (F' 344 9 = 0 → F' 344 33 = F 344 33 + 1)) gqn
theorem mc_180 {G : Nat → Nat → Option Nat} (hG : gg G) (F : fl_N) (X : xi_H) (hgi : gi F) (K : fl_N) (ts l tl : List Int) (hgK : gi K) (hrk : rk K F) (hkt : rkt K) (hp : 0 ≤ F 344 5 ∧ F 344 5 ≤ K 1 6 - 1) (hts : rpn (F 349) (F 344 15) ts) (ht : trm F 5 2 l tl) (hlt : l.length = tl.length) : fl_M xi_ms 180 4 89 [.ref 344] (fl_H sh_T G F ++ X) (pq_180 G F X K ts l tl) := by
  intro fr lo hfr hlo
  show fl_R xi_ms 180 fr lo 0 [(0, .ref 344)] [] _ _
  have hP := (rkt_p hkt hp.1 hp.2 hgK).1
  have hK16 : 0 ≤ K 1 6 ∧ K 1 6 ≤ 601 := gi_g hgK rfl
  have hT : rpn (F 364) (F 344 33) l ∧ rty (F 365) 0 tl := tr5 ht
  have hT1 := hT.1.1
  have hb33 : 0 ≤ F 344 33 ∧ F 344 33 ≤ 6 := gi_g hgi rfl
  have b1_ : 0 ≤ F 344 9 ∧ F 344 9 ≤ 5 := gi_g hgi rfl
  by_cases h2_ : F 344 9 = 0
  ·
    refine ga_aload_n (v := .ref 344) hm_180 rfl rfl rfl ?_
    have b3_ : 0 ≤ F 344 33 ∧ F 344 33 ≤ 6 := gi_g hgi rfl
    refine ga_geti (z := F 344 33) hm_180 rfl sc_344 rfl (rfl) ?_
    refine fl_bipush hm_180 rfl rfl ?_
    refine fx_icmp_ne (a := F 344 33) (b := 6) hm_180 rfl ⟨by omega, by omega⟩ ⟨by omega, by omega⟩ (fun h4_ => ?_) (fun h5_ => ?_)
    ·
      refine ga_aload_n (v := .ref 344) hm_180 rfl rfl rfl ?_
      have b6_ : 0 ≤ F 344 5 ∧ F 344 5 ≤ 600 := gi_g hgi rfl
      refine gVl (nY := 3) (F := 2) (L := 46) (As := []) (b := 344) (rest := []) hm_180 rfl hm_58 rfl rfl (fl_ob sc_344) rfl rfl rfl rfl rfl (by omega) (by omega) (mc_58 hG F X hgi (K) hgK hrk hkt (⟨by omega, by omega⟩)) (fun _ _ h => False.elim h) ?_
      have b8_ : 0 ≤ F 344 10 ∧ F 344 10 ≤ 600 := gi_g hgi rfl
      rintro z7_ A1_ (⟨F13_, hA_, g14_, s15_, c9_, c10_, c11_, c12_⟩ | ⟨F23_, hA_, g24_, s25_, c16_, c17_, c18_, c19_, c20_, c21_, c22_⟩)
      ·
        subst hA_
        have g26_ : fs [(344, 344, 5, 5), (344, 344, 9, 10), (344, 344, 33, 33), (364, 365, 0, 100000)] F F13_ := fs_tr fs_refl s15_ rfl
        have rk27_ : rk K F13_ := rk_fs hrk s15_ (fs_rg rfl) rfl
        have c10_s := c10_.1 (by omega)
        clear c10_
        refine ga_lstore_n (lv2 := [(1, .long (Int64.ofInt z7_)), (0, .ref 344)]) hm_180 rfl (Nat.le_of_ble_eq_true rfl) rfl ?_
        refine ga_aload_n (v := .ref 344) hm_180 rfl rfl rfl ?_
        refine gIi (nY := 1) (F := 0) (L := 0) (As := []) (b := 344) (rest := []) hm_180 rfl hm_59 rfl rfl (fl_ob sc_344) rfl rfl rfl rfl rfl (by omega) (by omega) ?_
        intro f28_ l29_ h30_ h31_
        show fl_R xi_ms 59 f28_ l29_ 0 [(0, .ref 344)] [] _ _
        refine ga_aload_n (v := .ref 344) hm_59 rfl rfl rfl ?_
        have b32_ : 0 ≤ F13_ 344 9 ∧ F13_ 344 9 ≤ 5 := gi_g g14_ rfl
        refine ga_geti (z := F13_ 344 9) hm_59 rfl sc_344 rfl (rfl) ?_
        refine fl_if_le (a := F13_ 344 9) hm_59 rfl ⟨by omega, by omega⟩ (fun h33_ => ?_) (fun h34_ => ?_)
        · exfalso; omega
        refine fl_iconst hm_59 rfl ?_
        refine fl_goto hm_59 rfl ?_
        refine gr_i hm_59 rfl rfl (ga_nb (by omega)) ?_
        clear h30_ h31_ f28_ l29_
        refine fl_if_ne hm_180 rfl ⟨by omega, by omega⟩ (fun _ => ?_) (fun h => absurd (by omega) h)
        refine ga_aload_n (v := .ref 344) hm_180 rfl rfl rfl ?_
        refine gIv (nY := 1) (F := 1) (L := 20) (As := []) (b := 344) (rest := []) hm_180 rfl hm_61 rfl rfl (fl_ob sc_344) rfl rfl rfl rfl rfl (by omega) (by omega) ?_
        intro f35_ l36_ h37_ h38_
        show fl_R xi_ms 61 f35_ l36_ 0 [(0, .ref 344)] [] _ _
        refine ga_aload_n (v := .ref 344) hm_61 rfl rfl rfl ?_
        refine ga_dup hm_61 rfl rfl ?_
        have e39_ : F13_ 344 5 = F 344 5 := (s15_ 344 5 rfl).trans (rfl)
        refine ga_geti (z := F 344 5) hm_61 rfl sc_344 rfl (e39_) ?_
        refine ga_aload_n (v := .ref 344) hm_61 rfl rfl rfl ?_
        refine gIi (nY := 1) (F := 0) (L := 0) (As := []) (b := 344) (rest := [.int (Int32.ofInt (F 344 5)), .ref 344]) hm_61 rfl hm_59 rfl rfl (fl_ob sc_344) rfl rfl rfl rfl rfl (by omega) (by omega) ?_
        intro f40_ l41_ h42_ h43_
        show fl_R xi_ms 59 f40_ l41_ 0 [(0, .ref 344)] [] _ _
        refine ga_aload_n (v := .ref 344) hm_59 rfl rfl rfl ?_
        refine ga_geti (z := F13_ 344 9) hm_59 rfl sc_344 rfl (rfl) ?_
        refine fl_if_le (a := F13_ 344 9) hm_59 rfl ⟨by omega, by omega⟩ (fun h44_ => ?_) (fun h45_ => ?_)
        · exfalso; omega
        refine fl_iconst hm_59 rfl ?_
        refine fl_goto hm_59 rfl ?_
        refine gr_i hm_59 rfl rfl (ga_nb (by omega)) ?_
        clear h42_ h43_ f40_ l41_
        refine fl_if_eq hm_61 rfl ⟨by omega, by omega⟩ (fun h => absurd h (by omega)) (fun _ => ?_)
        refine fl_iconst hm_61 rfl ?_
        refine fl_goto hm_61 rfl ?_
        refine ga_iadd (a := F 344 5) (b := 0) (c := F 344 5) hm_61 rfl (by omega) ?_
        refine ga_puti (z := F 344 5) hm_61 rfl sc_344 rfl rfl ?_
        refine gr_v hm_61 rfl rfl ?_
        clear h37_ h38_ f35_ l36_
        refine ga_aload_n (v := .ref 344) hm_180 rfl rfl rfl ?_
        refine gIi (nY := 1) (F := 0) (L := 0) (As := []) (b := 344) (rest := []) hm_180 rfl hm_59 rfl rfl (fl_ob sc_344) rfl rfl rfl rfl rfl (by omega) (by omega) ?_
        intro f46_ l47_ h48_ h49_
        show fl_R xi_ms 59 f46_ l47_ 0 [(0, .ref 344)] [] _ _
        refine ga_aload_n (v := .ref 344) hm_59 rfl rfl rfl ?_
        refine ga_geti (z := F13_ 344 9) hm_59 rfl sc_344 rfl (fl_u_ne (by first | exact nc_ rfl | decide | omega)) ?_
        refine fl_if_le (a := F13_ 344 9) hm_59 rfl ⟨by omega, by omega⟩ (fun h50_ => ?_) (fun h51_ => ?_)
        · exfalso; omega
        refine fl_iconst hm_59 rfl ?_
        refine fl_goto hm_59 rfl ?_
        refine gr_i hm_59 rfl rfl (ga_nb (by omega)) ?_
        clear h48_ h49_ f46_ l47_
        refine fl_if_eq hm_180 rfl ⟨by omega, by omega⟩ (fun h => absurd h (by omega)) (fun _ => ?_)
        obtain ⟨F52_, q53_⟩ : ∃ Fq_, Fq_ = (fl_u F13_ 344 5 (F 344 5)) := ⟨_, rfl⟩
        rw [← q53_]
        have g54_ : gi F52_ := by rw [q53_]; exact gi_u (g14_) rfl (by omega) (by omega)
        have g55_ : fs [(344, 344, 5, 5), (344, 344, 9, 10), (344, 344, 33, 33), (364, 365, 0, 100000)] F F52_ := by rw [q53_]; exact fs_u (g26_) rfl
        have rk56_ : rk K F52_ := by rw [q53_]; exact rk_u (rk27_) (by first | decide | exact nc_ rfl | omega) (by first | decide | exact nc_ rfl | omega)
        refine gr_v hm_180 rfl rfl ?_
        have e57_ : F52_ 344 9 = F13_ 344 9 := by rw [q53_]; exact fl_u_ne (by first | exact nc_ rfl | decide | omega)
        have e58_ : F52_ 344 10 = F13_ 344 10 := by rw [q53_]; exact fl_u_ne (by first | exact nc_ rfl | decide | omega)
        have e59_ : F52_ 344 5 = F 344 5 := by rw [q53_]; exact fl_u_eq
        have e60_ : F13_ 5 2 = F 5 2 := (s15_ 5 2 rfl).trans (rfl)
        have e61_ : F52_ 5 2 = F 5 2 := by rw [q53_]; exact (fl_u_ne (by first | exact nc_ rfl | decide | omega)).trans (e60_)
        have b62_ : 0 ≤ F 5 2 ∧ F 5 2 ≤ 600 := gi_g hgi rfl
        have e63_ : F13_ 344 33 = F 344 33 := (s15_ 344 33 rfl).trans (rfl)
        have e64_ : F52_ 344 33 = F 344 33 := by rw [q53_]; exact (fl_u_ne (by first | exact nc_ rfl | decide | omega)).trans (e63_)
        exact ⟨F52_, rfl, g54_, g55_, (by omega), (⟨by omega, by omega⟩), (⟨l, tl, (by rw [q53_]; exact (trm_u (trm_fs ht s15_ (by first | exact fs_rg rfl | exact fun r j hj => (fs_n (by omega) rfl))) (by first | decide | exact nc_ rfl | omega))), hlt⟩), (by omega)⟩
      subst hA_
      have g65_ : fs [(344, 344, 5, 5), (344, 344, 9, 10), (344, 344, 33, 33), (364, 365, 0, 100000)] F F23_ := fs_tr fs_refl s25_ rfl
      have rk66_ : rk K F23_ := rk_fs hrk s25_ (fs_rg rfl) rfl
      refine ga_lstore_n (lv2 := [(1, .long (Int64.ofInt z7_)), (0, .ref 344)]) hm_180 rfl (Nat.le_of_ble_eq_true rfl) rfl ?_
      refine ga_aload_n (v := .ref 344) hm_180 rfl rfl rfl ?_
      refine gIi (nY := 1) (F := 0) (L := 0) (As := []) (b := 344) (rest := []) hm_180 rfl hm_59 rfl rfl (fl_ob sc_344) rfl rfl rfl rfl rfl (by omega) (by omega) ?_
      intro f67_ l68_ h69_ h70_
      show fl_R xi_ms 59 f67_ l68_ 0 [(0, .ref 344)] [] _ _
      refine ga_aload_n (v := .ref 344) hm_59 rfl rfl rfl ?_
      have b71_ : 0 ≤ F23_ 344 9 ∧ F23_ 344 9 ≤ 5 := gi_g g24_ rfl
      refine ga_geti (z := F23_ 344 9) hm_59 rfl sc_344 rfl (rfl) ?_
      refine fl_if_le (a := F23_ 344 9) hm_59 rfl ⟨by omega, by omega⟩ (fun h72_ => ?_) (fun h73_ => ?_)
      ·
        refine fl_iconst hm_59 rfl ?_
        refine gr_i hm_59 rfl rfl (ga_nb (by omega)) ?_
        clear h69_ h70_ f67_ l68_
        refine fl_if_ne hm_180 rfl ⟨by omega, by omega⟩ (fun h => absurd h (by omega)) (fun _ => ?_)
        refine ga_aload_n (v := .ref 344) hm_180 rfl rfl rfl ?_
        refine ga_getr (b := 364) hm_180 rfl sc_344 rfl ?_
        refine fl_iconst hm_180 rfl ?_
        refine ga_aload_n (v := .ref 344) hm_180 rfl rfl rfl ?_
        have e74_ : F23_ 344 33 = F 344 33 := (s25_ 344 33 rfl).trans (rfl)
        refine ga_geti (z := F 344 33) hm_180 rfl sc_344 rfl (e74_) ?_
        refine ga_lload_n (z := z7_) hm_180 rfl rfl ?_
        refine gSi (nY := 7) (F := 0) (L := 0) (As := [.ref 364, .int (Int32.ofInt 0), .int (Int32.ofInt (F 344 33)), .long (Int64.ofInt z7_)]) (rest := []) hm_180 rfl hm_162 rfl rfl (fl_pos sc_0) rfl rfl rfl rfl (by omega) (by omega) (mc_162 hG F23_ X g24_ (364) (6) (0) (F 344 33) (z7_) sc_364 (fun _ => rfl) (⟨by omega, by omega, by omega, by omega⟩) (⟨by omega, by omega⟩))  ?_
        rintro z75_ A1_ ⟨hA_, c76_, c77_, c78_⟩
        subst hA_
        have c76_b : -1 ≤ z75_ ∧ z75_ ≤ 1000 := by omega
        have c76_o : opq _ := c76_
        have c77_o : opq _ := c77_
        have c78_o : opq _ := c78_
        clear c76_ c77_ c78_
        refine fl_iconst hm_180 rfl ?_
        refine fl_icmp_eq (a := z75_) (b := -1) hm_180 rfl ⟨by omega, by omega⟩ ⟨by omega, by omega⟩ (fun h79_ => ?_) (fun h80_ => ?_)
        ·
          refine ga_aload_n (v := .ref 344) hm_180 rfl rfl rfl ?_
          refine gIv (nY := 1) (F := 1) (L := 20) (As := []) (b := 344) (rest := []) hm_180 rfl hm_61 rfl rfl (fl_ob sc_344) rfl rfl rfl rfl rfl (by omega) (by omega) ?_
          intro f81_ l82_ h83_ h84_
          show fl_R xi_ms 61 f81_ l82_ 0 [(0, .ref 344)] [] _ _
          refine ga_aload_n (v := .ref 344) hm_61 rfl rfl rfl ?_
          refine ga_dup hm_61 rfl rfl ?_
          have e85_ : F23_ 344 5 = F 344 5 := (s25_ 344 5 rfl).trans (rfl)
          refine ga_geti (z := F 344 5) hm_61 rfl sc_344 rfl (e85_) ?_
          refine ga_aload_n (v := .ref 344) hm_61 rfl rfl rfl ?_
          refine gIi (nY := 1) (F := 0) (L := 0) (As := []) (b := 344) (rest := [.int (Int32.ofInt (F 344 5)), .ref 344]) hm_61 rfl hm_59 rfl rfl (fl_ob sc_344) rfl rfl rfl rfl rfl (by omega) (by omega) ?_
          intro f86_ l87_ h88_ h89_
          show fl_R xi_ms 59 f86_ l87_ 0 [(0, .ref 344)] [] _ _
          refine ga_aload_n (v := .ref 344) hm_59 rfl rfl rfl ?_
          refine ga_geti (z := F23_ 344 9) hm_59 rfl sc_344 rfl (rfl) ?_
          refine fl_if_le (a := F23_ 344 9) hm_59 rfl ⟨by omega, by omega⟩ (fun h90_ => ?_) (fun h91_ => ?_)
          ·
            refine fl_iconst hm_59 rfl ?_
            refine gr_i hm_59 rfl rfl (ga_nb (by omega)) ?_
            clear h88_ h89_ f86_ l87_
            refine fl_if_eq hm_61 rfl ⟨by omega, by omega⟩ (fun _ => ?_) (fun h => absurd (by omega) h)
            refine fl_iconst hm_61 rfl ?_
            refine ga_iadd (a := F 344 5) (b := 1) (c := F 344 5 + 1) hm_61 rfl (by omega) ?_
            refine ga_puti (z := F 344 5 + 1) hm_61 rfl sc_344 rfl rfl ?_
            refine gr_v hm_61 rfl rfl ?_
            clear h83_ h84_ f81_ l82_
            refine ga_aload_n (v := .ref 344) hm_180 rfl rfl rfl ?_
            refine gIi (nY := 1) (F := 0) (L := 0) (As := []) (b := 344) (rest := []) hm_180 rfl hm_59 rfl rfl (fl_ob sc_344) rfl rfl rfl rfl rfl (by omega) (by omega) ?_
            intro f92_ l93_ h94_ h95_
            show fl_R xi_ms 59 f92_ l93_ 0 [(0, .ref 344)] [] _ _
            refine ga_aload_n (v := .ref 344) hm_59 rfl rfl rfl ?_
            refine ga_geti (z := F23_ 344 9) hm_59 rfl sc_344 rfl (fl_u_ne (by first | exact nc_ rfl | decide | omega)) ?_
            refine fl_if_le (a := F23_ 344 9) hm_59 rfl ⟨by omega, by omega⟩ (fun h96_ => ?_) (fun h97_ => ?_)
            ·
              refine fl_iconst hm_59 rfl ?_
              refine gr_i hm_59 rfl rfl (ga_nb (by omega)) ?_
              clear h94_ h95_ f92_ l93_
              refine fl_if_eq hm_180 rfl ⟨by omega, by omega⟩ (fun _ => ?_) (fun h => absurd (by omega) h)
              refine ga_aload_n (v := .ref 344) hm_180 rfl rfl rfl ?_
              refine ga_getr (b := 364) hm_180 rfl sc_344 rfl ?_
              refine ga_aload_n (v := .ref 344) hm_180 rfl rfl rfl ?_
              refine ga_geti (z := F 344 33) hm_180 rfl sc_344 rfl ((fl_u_ne (by first | exact nc_ rfl | decide | omega)).trans (e74_)) ?_
              refine ga_lload_n (z := z7_) hm_180 rfl rfl ?_
              refine fl_last (z := F 344 33) (v := z7_) hm_180 rfl sc_364 (by omega) (by omega) (by omega) ?_
              refine ga_aload_n (v := .ref 344) hm_180 rfl rfl rfl ?_
              refine ga_getr (b := 365) hm_180 rfl sc_344 rfl ?_
              refine ga_aload_n (v := .ref 344) hm_180 rfl rfl rfl ?_
              refine ga_geti (z := F 344 33) hm_180 rfl sc_344 rfl ((fl_u_ne (by first | exact nc_ rfl | decide | omega)).trans ((fl_u_ne (by first | exact nc_ rfl | decide | omega)).trans (e74_))) ?_
              refine ga_aload_n (v := .ref 344) hm_180 rfl rfl rfl ?_
              obtain ⟨F98_, q99_⟩ : ∃ Fq_, Fq_ = (fl_u (fl_u F23_ 344 5 (F 344 5 + 1)) 364 (F 344 33).toNat z7_) := ⟨_, rfl⟩
              rw [← q99_]
              have g100_ : gi F98_ := by rw [q99_]; exact gi_u (gi_u (g24_) rfl (by omega) (by omega)) rfl (by omega) (by omega)
              have g101_ : fs [(344, 344, 5, 5), (344, 344, 9, 10), (344, 344, 33, 33), (364, 365, 0, 100000)] F F98_ := by rw [q99_]; exact fs_u (fs_u (g65_) rfl) (fs_z (fs_z (fs_z (fs_y (by omega)))))
              have rk102_ : rk K F98_ := by rw [q99_]; exact rk_u (rk_u (rk66_) (by first | decide | exact nc_ rfl | omega) (by first | decide | exact nc_ rfl | omega)) (by first | decide | exact nc_ rfl | omega) (by first | decide | exact nc_ rfl | omega)
              have e103_ : F98_ 344 5 = F 344 5 + 1 := by rw [q99_]; exact (fl_u_ne (by first | exact nc_ rfl | decide | omega)).trans (fl_u_eq)
              refine gVi (nY := 2) (F := 3) (L := 68) (As := []) (b := 344) (rest := [.int (Int32.ofInt (F 344 33)), .ref 365]) hm_180 rfl hm_186 rfl rfl (fl_ob sc_344) rfl rfl rfl rfl rfl (by omega) (by omega) (mc_186s hG F98_ X g100_ (K) (ts) hgK rk102_ hkt (⟨by omega, by omega⟩) ((by rw [q99_]; exact (rpn_u (rpn_u (rpn_fs hts s25_ (fun _ => (by first | exact fs_c rfl | exact (fs_n (by omega) rfl))) (by first | exact fs_c rfl | exact (fs_n (by omega) rfl))) (by first | decide | exact nc_ rfl | omega) (by first | decide | exact nc_ rfl | omega)) (by first | decide | exact nc_ rfl | omega) (by first | decide | exact nc_ rfl | omega))))) (fun _ _ h => False.elim h) ?_
              have e105_ : F98_ 344 9 = F23_ 344 9 := by rw [q99_]; exact (fl_u_ne (by first | exact nc_ rfl | decide | omega)).trans (fl_u_ne (by first | exact nc_ rfl | decide | omega))
              rintro z104_ A1_ ⟨F109_, hA_, g110_, s111_, c106_, c107_, c108_⟩
              subst hA_
              have g112_ : fs [(344, 344, 5, 5), (344, 344, 9, 10), (344, 344, 33, 33), (364, 365, 0, 100000)] F F109_ := fs_tr g101_ s111_ rfl
              have rk113_ : rk K F109_ := rk_fs rk102_ s111_ (fs_rg rfl) rfl
              try simp only [e105_] at c106_
              refine fl_iast (z := F 344 33) (v := z104_) hm_180 rfl sc_365 (by omega) (by omega) (by omega) ?_
              refine ga_aload_n (v := .ref 344) hm_180 rfl rfl rfl ?_
              refine ga_dup hm_180 rfl rfl ?_
              have e114_ : F98_ 344 33 = F 344 33 := by rw [q99_]; exact (fl_u_ne (by first | exact nc_ rfl | decide | omega)).trans ((fl_u_ne (by first | exact nc_ rfl | decide | omega)).trans (e74_))
              have e115_ : F109_ 344 33 = F 344 33 := (s111_ 344 33 rfl).trans (e114_)
              refine ga_geti (z := F 344 33) hm_180 rfl sc_344 rfl ((fl_u_ne (by first | exact nc_ rfl | decide | omega)).trans (e115_)) ?_
              refine fl_iconst hm_180 rfl ?_
              refine ga_iadd (a := F 344 33) (b := 1) (c := F 344 33 + 1) hm_180 rfl (by omega) ?_
              refine ga_puti (z := F 344 33 + 1) hm_180 rfl sc_344 rfl rfl ?_
              obtain ⟨F116_, q117_⟩ : ∃ Fq_, Fq_ = (fl_u (fl_u F109_ 365 (F 344 33).toNat z104_) 344 33 (F 344 33 + 1)) := ⟨_, rfl⟩
              rw [← q117_]
              have g118_ : gi F116_ := by rw [q117_]; exact gi_u (gi_u (g110_) rfl (by omega) (by omega)) rfl (by omega) (by omega)
              have g119_ : fs [(344, 344, 5, 5), (344, 344, 9, 10), (344, 344, 33, 33), (364, 365, 0, 100000)] F F116_ := by rw [q117_]; exact fs_u (fs_u (g112_) (fs_z (fs_z (fs_z (fs_y (by omega)))))) rfl
              have rk120_ : rk K F116_ := by rw [q117_]; exact rk_u (rk_u (rk113_) (by first | decide | exact nc_ rfl | omega) (by first | decide | exact nc_ rfl | omega)) (by first | decide | exact nc_ rfl | omega) (by first | decide | exact nc_ rfl | omega)
              refine gr_v hm_180 rfl rfl ?_
              have e121_ : F116_ 344 9 = F109_ 344 9 := by rw [q117_]; exact (fl_u_ne (by first | exact nc_ rfl | decide | omega)).trans (fl_u_ne (by first | exact nc_ rfl | decide | omega))
              have b122_ : 0 ≤ F109_ 344 9 ∧ F109_ 344 9 ≤ 5 := gi_g g110_ rfl
              have e123_ : F116_ 344 10 = F109_ 344 10 := by rw [q117_]; exact (fl_u_ne (by first | exact nc_ rfl | decide | omega)).trans (fl_u_ne (by first | exact nc_ rfl | decide | omega))
              have e124_ : F116_ 344 5 = F109_ 344 5 := by rw [q117_]; exact (fl_u_ne (by first | exact nc_ rfl | decide | omega)).trans (fl_u_ne (by first | exact nc_ rfl | decide | omega))
              have b125_ : 0 ≤ F109_ 344 5 ∧ F109_ 344 5 ≤ 600 := gi_g g110_ rfl
              have e126_ : F23_ 5 2 = F 5 2 := (s25_ 5 2 rfl).trans (rfl)
              have e127_ : F98_ 5 2 = F 5 2 := by rw [q99_]; exact (fl_u_ne (by first | exact nc_ rfl | decide | omega)).trans ((fl_u_ne (by first | exact nc_ rfl | decide | omega)).trans (e126_))
              have e128_ : F109_ 5 2 = F 5 2 := (s111_ 5 2 rfl).trans (e127_)
              have e129_ : F116_ 5 2 = F 5 2 := by rw [q117_]; exact (fl_u_ne (by first | exact nc_ rfl | decide | omega)).trans ((fl_u_ne (by first | exact nc_ rfl | decide | omega)).trans (e128_))
              have b130_ : 0 ≤ F 5 2 ∧ F 5 2 ≤ 600 := gi_g hgi rfl
              have e131_ : F116_ 344 33 = F 344 33 + 1 := by rw [q117_]; exact fl_u_eq
              have e132_ : F98_ 364 (F 344 33).toNat = z7_ := by rw [q99_]; exact fl_u_eq
              have e133_ : F109_ 364 (F 344 33).toNat = z7_ := (s111_ 364 (F 344 33).toNat (by first | exact fs_c rfl | exact (fs_n (by omega) (fs_n (by omega) rfl)))).trans (e132_)
              have e134_ : F116_ 364 (F 344 33).toNat = z7_ := by rw [q117_]; exact (fl_u_ne (by first | exact nc_ rfl | decide | omega)).trans ((fl_u_ne (by first | exact nc_ rfl | decide | omega)).trans (e133_))
              have e135_ : F116_ 365 (F 344 33).toNat = z104_ := by rw [q117_]; exact (fl_u_ne (by first | exact nc_ rfl | decide | omega)).trans (fl_u_eq)
              exact ⟨F116_, rfl, g118_, g119_, (by omega), (⟨by omega, by omega⟩), (⟨l ++ [_], tl ++ [z104_ - 1], Or.inl ⟨rfl, rfl, by rw [e131_]; exact rpn_at hT.1 (fun j hj => (Eq.trans (a := F116_ 364 j) (b := F109_ 364 j) (by rw [q117_]; exact (fl_u_ne (by first | exact nc_ rfl | decide | omega)).trans ((fl_u_ne (by first | exact nc_ rfl | decide | omega)))) (Eq.trans (a := F109_ 364 j) (b := F98_ 364 j) (s111_ 364 j (by first | exact fs_c rfl | exact (fs_n (by omega) (fs_n (by omega) rfl)))) (Eq.trans (a := F98_ 364 j) (b := F23_ 364 j) (by rw [q99_]; exact (fl_u_ne (by first | exact nc_ rfl | decide | omega)).trans ((fl_u_ne (by first | exact nc_ rfl | decide | omega)))) (show F23_ 364 j = F 364 j from (s25_ 364 j (by first | exact fs_c rfl | exact (fs_n (by omega) rfl)))))))) (e134_) c19_, rty_snoc hT.2 (fun j hj => (Eq.trans (a := F116_ 365 (0 + j)) (b := F109_ 365 (0 + j)) (by rw [q117_]; exact (fl_u_ne (by first | exact nc_ rfl | decide | omega)).trans ((fl_u_ne (by first | exact nc_ rfl | decide | omega)))) (Eq.trans (a := F109_ 365 (0 + j)) (b := F98_ 365 (0 + j)) (s111_ 365 (0 + j) (by first | exact fs_c rfl | exact (fs_n (by omega) (fs_n (by omega) rfl)))) (Eq.trans (a := F98_ 365 (0 + j)) (b := F23_ 365 (0 + j)) (by rw [q99_]; exact (fl_u_ne (by first | exact nc_ rfl | decide | omega)).trans ((fl_u_ne (by first | exact nc_ rfl | decide | omega)))) (show F23_ 365 (0 + j) = F 365 (0 + j) from (s25_ 365 (0 + j) (by first | exact fs_c rfl | exact (fs_n (by omega) rfl)))))))) (by rw [show 0 + tl.length = (F 344 33).toNat by omega]; exact Eq.trans (e135_) (by omega))⟩, by simp only [List.length_append, List.length_singleton]; omega⟩), (by omega)⟩
            exfalso; omega
          exfalso; omega
        refine ga_aload_n (v := .ref 344) hm_180 rfl rfl rfl ?_
        refine fl_iconst hm_180 rfl ?_
        have e136_ : F23_ 344 5 = F 344 5 := (s25_ 344 5 rfl).trans (rfl)
        refine gVv (nY := 2) (F := 0) (L := 0) (As := [.int (Int32.ofInt 2)]) (b := 344) (rest := []) hm_180 rfl hm_54 rfl rfl (fl_ob sc_344) rfl rfl rfl rfl rfl (by omega) (by omega) (mc_54 hG F23_ X g24_ (K) (2) hgK rk66_ hkt (⟨by omega, by omega⟩) (⟨by omega, by omega⟩)) (fun _ _ h => False.elim h) ?_
        have b138_ : 0 ≤ F23_ 344 10 ∧ F23_ 344 10 ≤ 600 := gi_g g24_ rfl
        rintro A1_ ⟨F142_, hA_, g143_, s144_, c139_, c140_, c141_⟩
        subst hA_
        have g145_ : fs [(344, 344, 5, 5), (344, 344, 9, 10), (344, 344, 33, 33), (364, 365, 0, 100000)] F F142_ := fs_tr g65_ s144_ rfl
        have rk146_ : rk K F142_ := rk_fs rk66_ s144_ (fs_rg rfl) rfl
        try simp only [e136_] at c140_
        try simp only [e136_] at c141_
        have c140_s := c140_.1 (by omega)
        clear c140_
        refine ga_aload_n (v := .ref 344) hm_180 rfl rfl rfl ?_
        refine gIv (nY := 1) (F := 1) (L := 20) (As := []) (b := 344) (rest := []) hm_180 rfl hm_61 rfl rfl (fl_ob sc_344) rfl rfl rfl rfl rfl (by omega) (by omega) ?_
        intro f147_ l148_ h149_ h150_
        show fl_R xi_ms 61 f147_ l148_ 0 [(0, .ref 344)] [] _ _
        refine ga_aload_n (v := .ref 344) hm_61 rfl rfl rfl ?_
        refine ga_dup hm_61 rfl rfl ?_
        have e151_ : F142_ 344 5 = F 344 5 := (s144_ 344 5 rfl).trans (e136_)
        refine ga_geti (z := F 344 5) hm_61 rfl sc_344 rfl (e151_) ?_
        refine ga_aload_n (v := .ref 344) hm_61 rfl rfl rfl ?_
        refine gIi (nY := 1) (F := 0) (L := 0) (As := []) (b := 344) (rest := [.int (Int32.ofInt (F 344 5)), .ref 344]) hm_61 rfl hm_59 rfl rfl (fl_ob sc_344) rfl rfl rfl rfl rfl (by omega) (by omega) ?_
        intro f152_ l153_ h154_ h155_
        show fl_R xi_ms 59 f152_ l153_ 0 [(0, .ref 344)] [] _ _
        refine ga_aload_n (v := .ref 344) hm_59 rfl rfl rfl ?_
        have b156_ : 0 ≤ F142_ 344 9 ∧ F142_ 344 9 ≤ 5 := gi_g g143_ rfl
        refine ga_geti (z := F142_ 344 9) hm_59 rfl sc_344 rfl (rfl) ?_
        refine fl_if_le (a := F142_ 344 9) hm_59 rfl ⟨by omega, by omega⟩ (fun h157_ => ?_) (fun h158_ => ?_)
        · exfalso; omega
        refine fl_iconst hm_59 rfl ?_
        refine fl_goto hm_59 rfl ?_
        refine gr_i hm_59 rfl rfl (ga_nb (by omega)) ?_
        clear h154_ h155_ f152_ l153_
        refine fl_if_eq hm_61 rfl ⟨by omega, by omega⟩ (fun h => absurd h (by omega)) (fun _ => ?_)
        refine fl_iconst hm_61 rfl ?_
        refine fl_goto hm_61 rfl ?_
        refine ga_iadd (a := F 344 5) (b := 0) (c := F 344 5) hm_61 rfl (by omega) ?_
        refine ga_puti (z := F 344 5) hm_61 rfl sc_344 rfl rfl ?_
        refine gr_v hm_61 rfl rfl ?_
        clear h149_ h150_ f147_ l148_
        refine ga_aload_n (v := .ref 344) hm_180 rfl rfl rfl ?_
        refine gIi (nY := 1) (F := 0) (L := 0) (As := []) (b := 344) (rest := []) hm_180 rfl hm_59 rfl rfl (fl_ob sc_344) rfl rfl rfl rfl rfl (by omega) (by omega) ?_
        intro f159_ l160_ h161_ h162_
        show fl_R xi_ms 59 f159_ l160_ 0 [(0, .ref 344)] [] _ _
        refine ga_aload_n (v := .ref 344) hm_59 rfl rfl rfl ?_
        refine ga_geti (z := F142_ 344 9) hm_59 rfl sc_344 rfl (fl_u_ne (by first | exact nc_ rfl | decide | omega)) ?_
        refine fl_if_le (a := F142_ 344 9) hm_59 rfl ⟨by omega, by omega⟩ (fun h163_ => ?_) (fun h164_ => ?_)
        · exfalso; omega
        refine fl_iconst hm_59 rfl ?_
        refine fl_goto hm_59 rfl ?_
        refine gr_i hm_59 rfl rfl (ga_nb (by omega)) ?_
        clear h161_ h162_ f159_ l160_
        refine fl_if_eq hm_180 rfl ⟨by omega, by omega⟩ (fun h => absurd h (by omega)) (fun _ => ?_)
        obtain ⟨F165_, q166_⟩ : ∃ Fq_, Fq_ = (fl_u F142_ 344 5 (F 344 5)) := ⟨_, rfl⟩
        rw [← q166_]
        have g167_ : gi F165_ := by rw [q166_]; exact gi_u (g143_) rfl (by omega) (by omega)
        have g168_ : fs [(344, 344, 5, 5), (344, 344, 9, 10), (344, 344, 33, 33), (364, 365, 0, 100000)] F F165_ := by rw [q166_]; exact fs_u (g145_) rfl
        have rk169_ : rk K F165_ := by rw [q166_]; exact rk_u (rk146_) (by first | decide | exact nc_ rfl | omega) (by first | decide | exact nc_ rfl | omega)
        refine gr_v hm_180 rfl rfl ?_
        have e170_ : F165_ 344 9 = F142_ 344 9 := by rw [q166_]; exact fl_u_ne (by first | exact nc_ rfl | decide | omega)
        have e171_ : F165_ 344 10 = F142_ 344 10 := by rw [q166_]; exact fl_u_ne (by first | exact nc_ rfl | decide | omega)
        have e172_ : F165_ 344 5 = F 344 5 := by rw [q166_]; exact fl_u_eq
        have e173_ : F23_ 5 2 = F 5 2 := (s25_ 5 2 rfl).trans (rfl)
        have e174_ : F142_ 5 2 = F 5 2 := (s144_ 5 2 rfl).trans (e173_)
        have e175_ : F165_ 5 2 = F 5 2 := by rw [q166_]; exact (fl_u_ne (by first | exact nc_ rfl | decide | omega)).trans (e174_)
        have b176_ : 0 ≤ F 5 2 ∧ F 5 2 ≤ 600 := gi_g hgi rfl
        have e177_ : F142_ 344 33 = F 344 33 := (s144_ 344 33 rfl).trans (e74_)
        have e178_ : F165_ 344 33 = F 344 33 := by rw [q166_]; exact (fl_u_ne (by first | exact nc_ rfl | decide | omega)).trans (e177_)
        exact ⟨F165_, rfl, g167_, g168_, (by omega), (⟨by omega, by omega⟩), (⟨l, tl, (by rw [q166_]; exact (trm_u (trm_fs (trm_fs ht s25_ (by first | exact fs_rg rfl | exact fun r j hj => (fs_n (by omega) rfl))) s144_ (by first | exact fs_rg rfl | exact fun r j hj => (fs_n (by omega) rfl))) (by first | decide | exact nc_ rfl | omega))), hlt⟩), (by omega)⟩
      exfalso; omega
    refine ga_aload_n (v := .ref 344) hm_180 rfl rfl rfl ?_
    refine fl_iconst hm_180 rfl ?_
    have b179_ : 0 ≤ F 344 5 ∧ F 344 5 ≤ 600 := gi_g hgi rfl
    refine gVv (nY := 2) (F := 0) (L := 0) (As := [.int (Int32.ofInt 1)]) (b := 344) (rest := []) hm_180 rfl hm_54 rfl rfl (fl_ob sc_344) rfl rfl rfl rfl rfl (by omega) (by omega) (mc_54 hG F X hgi (K) (1) hgK hrk hkt (⟨by omega, by omega⟩) (⟨by omega, by omega⟩)) (fun _ _ h => False.elim h) ?_
    have b181_ : 0 ≤ F 344 10 ∧ F 344 10 ≤ 600 := gi_g hgi rfl
    rintro A1_ ⟨F185_, hA_, g186_, s187_, c182_, c183_, c184_⟩
    subst hA_
    have g188_ : fs [(344, 344, 5, 5), (344, 344, 9, 10), (344, 344, 33, 33), (364, 365, 0, 100000)] F F185_ := fs_tr fs_refl s187_ rfl
    have rk189_ : rk K F185_ := rk_fs hrk s187_ (fs_rg rfl) rfl
    have c183_s := c183_.1 (by omega)
    clear c183_
    refine ga_aload_n (v := .ref 344) hm_180 rfl rfl rfl ?_
    have e190_ : F185_ 344 5 = F 344 5 := (s187_ 344 5 rfl).trans (rfl)
    refine gVl (nY := 3) (F := 2) (L := 46) (As := []) (b := 344) (rest := []) hm_180 rfl hm_58 rfl rfl (fl_ob sc_344) rfl rfl rfl rfl rfl (by omega) (by omega) (mc_58 hG F185_ X g186_ (K) hgK rk189_ hkt (⟨by omega, by omega⟩)) (fun _ _ h => False.elim h) ?_
    have b192_ : 0 ≤ F185_ 344 10 ∧ F185_ 344 10 ≤ 600 := gi_g g186_ rfl
    have b193_ : 0 ≤ F185_ 344 9 ∧ F185_ 344 9 ≤ 5 := gi_g g186_ rfl
    rintro z191_ A1_ (⟨F198_, hA_, g199_, s200_, c194_, c195_, c196_, c197_⟩ | ⟨F208_, hA_, g209_, s210_, c201_, c202_, c203_, c204_, c205_, c206_, c207_⟩)
    ·
      subst hA_
      have g211_ : fs [(344, 344, 5, 5), (344, 344, 9, 10), (344, 344, 33, 33), (364, 365, 0, 100000)] F F198_ := fs_tr g188_ s200_ rfl
      have rk212_ : rk K F198_ := rk_fs rk189_ s200_ (fs_rg rfl) rfl
      try simp only [e190_] at c195_
      have c195_k := c195_.2 (by omega)
      clear c195_
      refine ga_lstore_n (lv2 := [(1, .long (Int64.ofInt z191_)), (0, .ref 344)]) hm_180 rfl (Nat.le_of_ble_eq_true rfl) rfl ?_
      refine ga_aload_n (v := .ref 344) hm_180 rfl rfl rfl ?_
      refine gIi (nY := 1) (F := 0) (L := 0) (As := []) (b := 344) (rest := []) hm_180 rfl hm_59 rfl rfl (fl_ob sc_344) rfl rfl rfl rfl rfl (by omega) (by omega) ?_
      intro f213_ l214_ h215_ h216_
      show fl_R xi_ms 59 f213_ l214_ 0 [(0, .ref 344)] [] _ _
      refine ga_aload_n (v := .ref 344) hm_59 rfl rfl rfl ?_
      have b217_ : 0 ≤ F198_ 344 9 ∧ F198_ 344 9 ≤ 5 := gi_g g199_ rfl
      refine ga_geti (z := F198_ 344 9) hm_59 rfl sc_344 rfl (rfl) ?_
      refine fl_if_le (a := F198_ 344 9) hm_59 rfl ⟨by omega, by omega⟩ (fun h218_ => ?_) (fun h219_ => ?_)
      · exfalso; omega
      refine fl_iconst hm_59 rfl ?_
      refine fl_goto hm_59 rfl ?_
      refine gr_i hm_59 rfl rfl (ga_nb (by omega)) ?_
      clear h215_ h216_ f213_ l214_
      refine fl_if_ne hm_180 rfl ⟨by omega, by omega⟩ (fun _ => ?_) (fun h => absurd (by omega) h)
      refine ga_aload_n (v := .ref 344) hm_180 rfl rfl rfl ?_
      refine gIv (nY := 1) (F := 1) (L := 20) (As := []) (b := 344) (rest := []) hm_180 rfl hm_61 rfl rfl (fl_ob sc_344) rfl rfl rfl rfl rfl (by omega) (by omega) ?_
      intro f220_ l221_ h222_ h223_
      show fl_R xi_ms 61 f220_ l221_ 0 [(0, .ref 344)] [] _ _
      refine ga_aload_n (v := .ref 344) hm_61 rfl rfl rfl ?_
      refine ga_dup hm_61 rfl rfl ?_
      have e224_ : F198_ 344 5 = F 344 5 := (s200_ 344 5 rfl).trans (e190_)
      refine ga_geti (z := F 344 5) hm_61 rfl sc_344 rfl (e224_) ?_
      refine ga_aload_n (v := .ref 344) hm_61 rfl rfl rfl ?_
      refine gIi (nY := 1) (F := 0) (L := 0) (As := []) (b := 344) (rest := [.int (Int32.ofInt (F 344 5)), .ref 344]) hm_61 rfl hm_59 rfl rfl (fl_ob sc_344) rfl rfl rfl rfl rfl (by omega) (by omega) ?_
      intro f225_ l226_ h227_ h228_
      show fl_R xi_ms 59 f225_ l226_ 0 [(0, .ref 344)] [] _ _
      refine ga_aload_n (v := .ref 344) hm_59 rfl rfl rfl ?_
      refine ga_geti (z := F198_ 344 9) hm_59 rfl sc_344 rfl (rfl) ?_
      refine fl_if_le (a := F198_ 344 9) hm_59 rfl ⟨by omega, by omega⟩ (fun h229_ => ?_) (fun h230_ => ?_)
      · exfalso; omega
      refine fl_iconst hm_59 rfl ?_
      refine fl_goto hm_59 rfl ?_
      refine gr_i hm_59 rfl rfl (ga_nb (by omega)) ?_
      clear h227_ h228_ f225_ l226_
      refine fl_if_eq hm_61 rfl ⟨by omega, by omega⟩ (fun h => absurd h (by omega)) (fun _ => ?_)
      refine fl_iconst hm_61 rfl ?_
      refine fl_goto hm_61 rfl ?_
      refine ga_iadd (a := F 344 5) (b := 0) (c := F 344 5) hm_61 rfl (by omega) ?_
      refine ga_puti (z := F 344 5) hm_61 rfl sc_344 rfl rfl ?_
      refine gr_v hm_61 rfl rfl ?_
      clear h222_ h223_ f220_ l221_
      refine ga_aload_n (v := .ref 344) hm_180 rfl rfl rfl ?_
      refine gIi (nY := 1) (F := 0) (L := 0) (As := []) (b := 344) (rest := []) hm_180 rfl hm_59 rfl rfl (fl_ob sc_344) rfl rfl rfl rfl rfl (by omega) (by omega) ?_
      intro f231_ l232_ h233_ h234_
      show fl_R xi_ms 59 f231_ l232_ 0 [(0, .ref 344)] [] _ _
      refine ga_aload_n (v := .ref 344) hm_59 rfl rfl rfl ?_
      refine ga_geti (z := F198_ 344 9) hm_59 rfl sc_344 rfl (fl_u_ne (by first | exact nc_ rfl | decide | omega)) ?_
      refine fl_if_le (a := F198_ 344 9) hm_59 rfl ⟨by omega, by omega⟩ (fun h235_ => ?_) (fun h236_ => ?_)
      · exfalso; omega
      refine fl_iconst hm_59 rfl ?_
      refine fl_goto hm_59 rfl ?_
      refine gr_i hm_59 rfl rfl (ga_nb (by omega)) ?_
      clear h233_ h234_ f231_ l232_
      refine fl_if_eq hm_180 rfl ⟨by omega, by omega⟩ (fun h => absurd h (by omega)) (fun _ => ?_)
      obtain ⟨F237_, q238_⟩ : ∃ Fq_, Fq_ = (fl_u F198_ 344 5 (F 344 5)) := ⟨_, rfl⟩
      rw [← q238_]
      have g239_ : gi F237_ := by rw [q238_]; exact gi_u (g199_) rfl (by omega) (by omega)
      have g240_ : fs [(344, 344, 5, 5), (344, 344, 9, 10), (344, 344, 33, 33), (364, 365, 0, 100000)] F F237_ := by rw [q238_]; exact fs_u (g211_) rfl
      have rk241_ : rk K F237_ := by rw [q238_]; exact rk_u (rk212_) (by first | decide | exact nc_ rfl | omega) (by first | decide | exact nc_ rfl | omega)
      refine gr_v hm_180 rfl rfl ?_
      have e242_ : F237_ 344 9 = F198_ 344 9 := by rw [q238_]; exact fl_u_ne (by first | exact nc_ rfl | decide | omega)
      have e243_ : F237_ 344 10 = F198_ 344 10 := by rw [q238_]; exact fl_u_ne (by first | exact nc_ rfl | decide | omega)
      have e244_ : F237_ 344 5 = F 344 5 := by rw [q238_]; exact fl_u_eq
      have e245_ : F185_ 5 2 = F 5 2 := (s187_ 5 2 rfl).trans (rfl)
      have e246_ : F198_ 5 2 = F 5 2 := (s200_ 5 2 rfl).trans (e245_)
      have e247_ : F237_ 5 2 = F 5 2 := by rw [q238_]; exact (fl_u_ne (by first | exact nc_ rfl | decide | omega)).trans (e246_)
      have b248_ : 0 ≤ F 5 2 ∧ F 5 2 ≤ 600 := gi_g hgi rfl
      have e249_ : F185_ 344 33 = F 344 33 := (s187_ 344 33 rfl).trans (rfl)
      have e250_ : F198_ 344 33 = F 344 33 := (s200_ 344 33 rfl).trans (e249_)
      have e251_ : F237_ 344 33 = F 344 33 := by rw [q238_]; exact (fl_u_ne (by first | exact nc_ rfl | decide | omega)).trans (e250_)
      exact ⟨F237_, rfl, g239_, g240_, (by omega), (⟨by omega, by omega⟩), (⟨l, tl, (by rw [q238_]; exact (trm_u (trm_fs (trm_fs ht s187_ (by first | exact fs_rg rfl | exact fun r j hj => (fs_n (by omega) rfl))) s200_ (by first | exact fs_rg rfl | exact fun r j hj => (fs_n (by omega) rfl))) (by first | decide | exact nc_ rfl | omega))), hlt⟩), (by omega)⟩
    exfalso; omega
  refine ga_aload_n (v := .ref 344) hm_180 rfl rfl rfl ?_
  have b252_ : 0 ≤ F 344 33 ∧ F 344 33 ≤ 6 := gi_g hgi rfl
  refine ga_geti (z := F 344 33) hm_180 rfl sc_344 rfl (rfl) ?_
  refine fl_bipush hm_180 rfl rfl ?_
  refine fx_icmp_ne (a := F 344 33) (b := 6) hm_180 rfl ⟨by omega, by omega⟩ ⟨by omega, by omega⟩ (fun h253_ => ?_) (fun h254_ => ?_)
  ·
    refine ga_aload_n (v := .ref 344) hm_180 rfl rfl rfl ?_
    have b255_ : 0 ≤ F 344 5 ∧ F 344 5 ≤ 600 := gi_g hgi rfl
    refine gVl (nY := 3) (F := 2) (L := 46) (As := []) (b := 344) (rest := []) hm_180 rfl hm_58 rfl rfl (fl_ob sc_344) rfl rfl rfl rfl rfl (by omega) (by omega) (mc_58 hG F X hgi (K) hgK hrk hkt (⟨by omega, by omega⟩)) (fun _ _ h => False.elim h) ?_
    have b257_ : 0 ≤ F 344 10 ∧ F 344 10 ≤ 600 := gi_g hgi rfl
    rintro z256_ A1_ (⟨F262_, hA_, g263_, s264_, c258_, c259_, c260_, c261_⟩ | ⟨F272_, hA_, g273_, s274_, c265_, c266_, c267_, c268_, c269_, c270_, c271_⟩)
    ·
      subst hA_
      have g275_ : fs [(344, 344, 5, 5), (344, 344, 9, 10), (344, 344, 33, 33), (364, 365, 0, 100000)] F F262_ := fs_tr fs_refl s264_ rfl
      have rk276_ : rk K F262_ := rk_fs hrk s264_ (fs_rg rfl) rfl
      have c259_k := c259_.2 (by omega)
      clear c259_
      refine ga_lstore_n (lv2 := [(1, .long (Int64.ofInt z256_)), (0, .ref 344)]) hm_180 rfl (Nat.le_of_ble_eq_true rfl) rfl ?_
      refine ga_aload_n (v := .ref 344) hm_180 rfl rfl rfl ?_
      refine gIi (nY := 1) (F := 0) (L := 0) (As := []) (b := 344) (rest := []) hm_180 rfl hm_59 rfl rfl (fl_ob sc_344) rfl rfl rfl rfl rfl (by omega) (by omega) ?_
      intro f277_ l278_ h279_ h280_
      show fl_R xi_ms 59 f277_ l278_ 0 [(0, .ref 344)] [] _ _
      refine ga_aload_n (v := .ref 344) hm_59 rfl rfl rfl ?_
      have b281_ : 0 ≤ F262_ 344 9 ∧ F262_ 344 9 ≤ 5 := gi_g g263_ rfl
      refine ga_geti (z := F262_ 344 9) hm_59 rfl sc_344 rfl (rfl) ?_
      refine fl_if_le (a := F262_ 344 9) hm_59 rfl ⟨by omega, by omega⟩ (fun h282_ => ?_) (fun h283_ => ?_)
      · exfalso; omega
      refine fl_iconst hm_59 rfl ?_
      refine fl_goto hm_59 rfl ?_
      refine gr_i hm_59 rfl rfl (ga_nb (by omega)) ?_
      clear h279_ h280_ f277_ l278_
      refine fl_if_ne hm_180 rfl ⟨by omega, by omega⟩ (fun _ => ?_) (fun h => absurd (by omega) h)
      refine ga_aload_n (v := .ref 344) hm_180 rfl rfl rfl ?_
      refine gIv (nY := 1) (F := 1) (L := 20) (As := []) (b := 344) (rest := []) hm_180 rfl hm_61 rfl rfl (fl_ob sc_344) rfl rfl rfl rfl rfl (by omega) (by omega) ?_
      intro f284_ l285_ h286_ h287_
      show fl_R xi_ms 61 f284_ l285_ 0 [(0, .ref 344)] [] _ _
      refine ga_aload_n (v := .ref 344) hm_61 rfl rfl rfl ?_
      refine ga_dup hm_61 rfl rfl ?_
      have e288_ : F262_ 344 5 = F 344 5 := (s264_ 344 5 rfl).trans (rfl)
      refine ga_geti (z := F 344 5) hm_61 rfl sc_344 rfl (e288_) ?_
      refine ga_aload_n (v := .ref 344) hm_61 rfl rfl rfl ?_
      refine gIi (nY := 1) (F := 0) (L := 0) (As := []) (b := 344) (rest := [.int (Int32.ofInt (F 344 5)), .ref 344]) hm_61 rfl hm_59 rfl rfl (fl_ob sc_344) rfl rfl rfl rfl rfl (by omega) (by omega) ?_
      intro f289_ l290_ h291_ h292_
      show fl_R xi_ms 59 f289_ l290_ 0 [(0, .ref 344)] [] _ _
      refine ga_aload_n (v := .ref 344) hm_59 rfl rfl rfl ?_
      refine ga_geti (z := F262_ 344 9) hm_59 rfl sc_344 rfl (rfl) ?_
      refine fl_if_le (a := F262_ 344 9) hm_59 rfl ⟨by omega, by omega⟩ (fun h293_ => ?_) (fun h294_ => ?_)
      · exfalso; omega
      refine fl_iconst hm_59 rfl ?_
      refine fl_goto hm_59 rfl ?_
      refine gr_i hm_59 rfl rfl (ga_nb (by omega)) ?_
      clear h291_ h292_ f289_ l290_
      refine fl_if_eq hm_61 rfl ⟨by omega, by omega⟩ (fun h => absurd h (by omega)) (fun _ => ?_)
      refine fl_iconst hm_61 rfl ?_
      refine fl_goto hm_61 rfl ?_
      refine ga_iadd (a := F 344 5) (b := 0) (c := F 344 5) hm_61 rfl (by omega) ?_
      refine ga_puti (z := F 344 5) hm_61 rfl sc_344 rfl rfl ?_
      refine gr_v hm_61 rfl rfl ?_
      clear h286_ h287_ f284_ l285_
      refine ga_aload_n (v := .ref 344) hm_180 rfl rfl rfl ?_
      refine gIi (nY := 1) (F := 0) (L := 0) (As := []) (b := 344) (rest := []) hm_180 rfl hm_59 rfl rfl (fl_ob sc_344) rfl rfl rfl rfl rfl (by omega) (by omega) ?_
      intro f295_ l296_ h297_ h298_
      show fl_R xi_ms 59 f295_ l296_ 0 [(0, .ref 344)] [] _ _
      refine ga_aload_n (v := .ref 344) hm_59 rfl rfl rfl ?_
      refine ga_geti (z := F262_ 344 9) hm_59 rfl sc_344 rfl (fl_u_ne (by first | exact nc_ rfl | decide | omega)) ?_
      refine fl_if_le (a := F262_ 344 9) hm_59 rfl ⟨by omega, by omega⟩ (fun h299_ => ?_) (fun h300_ => ?_)
      · exfalso; omega
      refine fl_iconst hm_59 rfl ?_
      refine fl_goto hm_59 rfl ?_
      refine gr_i hm_59 rfl rfl (ga_nb (by omega)) ?_
      clear h297_ h298_ f295_ l296_
      refine fl_if_eq hm_180 rfl ⟨by omega, by omega⟩ (fun h => absurd h (by omega)) (fun _ => ?_)
      obtain ⟨F301_, q302_⟩ : ∃ Fq_, Fq_ = (fl_u F262_ 344 5 (F 344 5)) := ⟨_, rfl⟩
      rw [← q302_]
      have g303_ : gi F301_ := by rw [q302_]; exact gi_u (g263_) rfl (by omega) (by omega)
      have g304_ : fs [(344, 344, 5, 5), (344, 344, 9, 10), (344, 344, 33, 33), (364, 365, 0, 100000)] F F301_ := by rw [q302_]; exact fs_u (g275_) rfl
      have rk305_ : rk K F301_ := by rw [q302_]; exact rk_u (rk276_) (by first | decide | exact nc_ rfl | omega) (by first | decide | exact nc_ rfl | omega)
      refine gr_v hm_180 rfl rfl ?_
      have e306_ : F301_ 344 9 = F262_ 344 9 := by rw [q302_]; exact fl_u_ne (by first | exact nc_ rfl | decide | omega)
      have e307_ : F301_ 344 10 = F262_ 344 10 := by rw [q302_]; exact fl_u_ne (by first | exact nc_ rfl | decide | omega)
      have e308_ : F301_ 344 5 = F 344 5 := by rw [q302_]; exact fl_u_eq
      have e309_ : F262_ 5 2 = F 5 2 := (s264_ 5 2 rfl).trans (rfl)
      have e310_ : F301_ 5 2 = F 5 2 := by rw [q302_]; exact (fl_u_ne (by first | exact nc_ rfl | decide | omega)).trans (e309_)
      have b311_ : 0 ≤ F 5 2 ∧ F 5 2 ≤ 600 := gi_g hgi rfl
      have e312_ : F262_ 344 33 = F 344 33 := (s264_ 344 33 rfl).trans (rfl)
      have e313_ : F301_ 344 33 = F 344 33 := by rw [q302_]; exact (fl_u_ne (by first | exact nc_ rfl | decide | omega)).trans (e312_)
      exact ⟨F301_, rfl, g303_, g304_, (by omega), (⟨by omega, by omega⟩), (⟨l, tl, (by rw [q302_]; exact (trm_u (trm_fs ht s264_ (by first | exact fs_rg rfl | exact fun r j hj => (fs_n (by omega) rfl))) (by first | decide | exact nc_ rfl | omega))), hlt⟩), (by omega)⟩
    exfalso; omega
  refine ga_aload_n (v := .ref 344) hm_180 rfl rfl rfl ?_
  refine fl_iconst hm_180 rfl ?_
  have b314_ : 0 ≤ F 344 5 ∧ F 344 5 ≤ 600 := gi_g hgi rfl
  refine gVv (nY := 2) (F := 0) (L := 0) (As := [.int (Int32.ofInt 1)]) (b := 344) (rest := []) hm_180 rfl hm_54 rfl rfl (fl_ob sc_344) rfl rfl rfl rfl rfl (by omega) (by omega) (mc_54 hG F X hgi (K) (1) hgK hrk hkt (⟨by omega, by omega⟩) (⟨by omega, by omega⟩)) (fun _ _ h => False.elim h) ?_
  have b316_ : 0 ≤ F 344 10 ∧ F 344 10 ≤ 600 := gi_g hgi rfl
  rintro A1_ ⟨F320_, hA_, g321_, s322_, c317_, c318_, c319_⟩
  subst hA_
  have g323_ : fs [(344, 344, 5, 5), (344, 344, 9, 10), (344, 344, 33, 33), (364, 365, 0, 100000)] F F320_ := fs_tr fs_refl s322_ rfl
  have rk324_ : rk K F320_ := rk_fs hrk s322_ (fs_rg rfl) rfl
  have c318_k := c318_.2 (by omega)
  clear c318_
  refine ga_aload_n (v := .ref 344) hm_180 rfl rfl rfl ?_
  have e325_ : F320_ 344 5 = F 344 5 := (s322_ 344 5 rfl).trans (rfl)
  refine gVl (nY := 3) (F := 2) (L := 46) (As := []) (b := 344) (rest := []) hm_180 rfl hm_58 rfl rfl (fl_ob sc_344) rfl rfl rfl rfl rfl (by omega) (by omega) (mc_58 hG F320_ X g321_ (K) hgK rk324_ hkt (⟨by omega, by omega⟩)) (fun _ _ h => False.elim h) ?_
  have b327_ : 0 ≤ F320_ 344 10 ∧ F320_ 344 10 ≤ 600 := gi_g g321_ rfl
  have b328_ : 0 ≤ F320_ 344 9 ∧ F320_ 344 9 ≤ 5 := gi_g g321_ rfl
  rintro z326_ A1_ (⟨F333_, hA_, g334_, s335_, c329_, c330_, c331_, c332_⟩ | ⟨F343_, hA_, g344_, s345_, c336_, c337_, c338_, c339_, c340_, c341_, c342_⟩)
  ·
    subst hA_
    have g346_ : fs [(344, 344, 5, 5), (344, 344, 9, 10), (344, 344, 33, 33), (364, 365, 0, 100000)] F F333_ := fs_tr g323_ s335_ rfl
    have rk347_ : rk K F333_ := rk_fs rk324_ s335_ (fs_rg rfl) rfl
    try simp only [e325_] at c330_
    have c330_k := c330_.2 (by omega)
    clear c330_
    refine ga_lstore_n (lv2 := [(1, .long (Int64.ofInt z326_)), (0, .ref 344)]) hm_180 rfl (Nat.le_of_ble_eq_true rfl) rfl ?_
    refine ga_aload_n (v := .ref 344) hm_180 rfl rfl rfl ?_
    refine gIi (nY := 1) (F := 0) (L := 0) (As := []) (b := 344) (rest := []) hm_180 rfl hm_59 rfl rfl (fl_ob sc_344) rfl rfl rfl rfl rfl (by omega) (by omega) ?_
    intro f348_ l349_ h350_ h351_
    show fl_R xi_ms 59 f348_ l349_ 0 [(0, .ref 344)] [] _ _
    refine ga_aload_n (v := .ref 344) hm_59 rfl rfl rfl ?_
    have b352_ : 0 ≤ F333_ 344 9 ∧ F333_ 344 9 ≤ 5 := gi_g g334_ rfl
    refine ga_geti (z := F333_ 344 9) hm_59 rfl sc_344 rfl (rfl) ?_
    refine fl_if_le (a := F333_ 344 9) hm_59 rfl ⟨by omega, by omega⟩ (fun h353_ => ?_) (fun h354_ => ?_)
    · exfalso; omega
    refine fl_iconst hm_59 rfl ?_
    refine fl_goto hm_59 rfl ?_
    refine gr_i hm_59 rfl rfl (ga_nb (by omega)) ?_
    clear h350_ h351_ f348_ l349_
    refine fl_if_ne hm_180 rfl ⟨by omega, by omega⟩ (fun _ => ?_) (fun h => absurd (by omega) h)
    refine ga_aload_n (v := .ref 344) hm_180 rfl rfl rfl ?_
    refine gIv (nY := 1) (F := 1) (L := 20) (As := []) (b := 344) (rest := []) hm_180 rfl hm_61 rfl rfl (fl_ob sc_344) rfl rfl rfl rfl rfl (by omega) (by omega) ?_
    intro f355_ l356_ h357_ h358_
    show fl_R xi_ms 61 f355_ l356_ 0 [(0, .ref 344)] [] _ _
    refine ga_aload_n (v := .ref 344) hm_61 rfl rfl rfl ?_
    refine ga_dup hm_61 rfl rfl ?_
    have e359_ : F333_ 344 5 = F 344 5 := (s335_ 344 5 rfl).trans (e325_)
    refine ga_geti (z := F 344 5) hm_61 rfl sc_344 rfl (e359_) ?_
    refine ga_aload_n (v := .ref 344) hm_61 rfl rfl rfl ?_
    refine gIi (nY := 1) (F := 0) (L := 0) (As := []) (b := 344) (rest := [.int (Int32.ofInt (F 344 5)), .ref 344]) hm_61 rfl hm_59 rfl rfl (fl_ob sc_344) rfl rfl rfl rfl rfl (by omega) (by omega) ?_
    intro f360_ l361_ h362_ h363_
    show fl_R xi_ms 59 f360_ l361_ 0 [(0, .ref 344)] [] _ _
    refine ga_aload_n (v := .ref 344) hm_59 rfl rfl rfl ?_
    refine ga_geti (z := F333_ 344 9) hm_59 rfl sc_344 rfl (rfl) ?_
    refine fl_if_le (a := F333_ 344 9) hm_59 rfl ⟨by omega, by omega⟩ (fun h364_ => ?_) (fun h365_ => ?_)
    · exfalso; omega
    refine fl_iconst hm_59 rfl ?_
    refine fl_goto hm_59 rfl ?_
    refine gr_i hm_59 rfl rfl (ga_nb (by omega)) ?_
    clear h362_ h363_ f360_ l361_
    refine fl_if_eq hm_61 rfl ⟨by omega, by omega⟩ (fun h => absurd h (by omega)) (fun _ => ?_)
    refine fl_iconst hm_61 rfl ?_
    refine fl_goto hm_61 rfl ?_
    refine ga_iadd (a := F 344 5) (b := 0) (c := F 344 5) hm_61 rfl (by omega) ?_
    refine ga_puti (z := F 344 5) hm_61 rfl sc_344 rfl rfl ?_
    refine gr_v hm_61 rfl rfl ?_
    clear h357_ h358_ f355_ l356_
    refine ga_aload_n (v := .ref 344) hm_180 rfl rfl rfl ?_
    refine gIi (nY := 1) (F := 0) (L := 0) (As := []) (b := 344) (rest := []) hm_180 rfl hm_59 rfl rfl (fl_ob sc_344) rfl rfl rfl rfl rfl (by omega) (by omega) ?_
    intro f366_ l367_ h368_ h369_
    show fl_R xi_ms 59 f366_ l367_ 0 [(0, .ref 344)] [] _ _
    refine ga_aload_n (v := .ref 344) hm_59 rfl rfl rfl ?_
    refine ga_geti (z := F333_ 344 9) hm_59 rfl sc_344 rfl (fl_u_ne (by first | exact nc_ rfl | decide | omega)) ?_
    refine fl_if_le (a := F333_ 344 9) hm_59 rfl ⟨by omega, by omega⟩ (fun h370_ => ?_) (fun h371_ => ?_)
    · exfalso; omega
    refine fl_iconst hm_59 rfl ?_
    refine fl_goto hm_59 rfl ?_
    refine gr_i hm_59 rfl rfl (ga_nb (by omega)) ?_
    clear h368_ h369_ f366_ l367_
    refine fl_if_eq hm_180 rfl ⟨by omega, by omega⟩ (fun h => absurd h (by omega)) (fun _ => ?_)
    obtain ⟨F372_, q373_⟩ : ∃ Fq_, Fq_ = (fl_u F333_ 344 5 (F 344 5)) := ⟨_, rfl⟩
    rw [← q373_]
    have g374_ : gi F372_ := by rw [q373_]; exact gi_u (g334_) rfl (by omega) (by omega)
    have g375_ : fs [(344, 344, 5, 5), (344, 344, 9, 10), (344, 344, 33, 33), (364, 365, 0, 100000)] F F372_ := by rw [q373_]; exact fs_u (g346_) rfl
    have rk376_ : rk K F372_ := by rw [q373_]; exact rk_u (rk347_) (by first | decide | exact nc_ rfl | omega) (by first | decide | exact nc_ rfl | omega)
    refine gr_v hm_180 rfl rfl ?_
    have e377_ : F372_ 344 9 = F333_ 344 9 := by rw [q373_]; exact fl_u_ne (by first | exact nc_ rfl | decide | omega)
    have e378_ : F372_ 344 10 = F333_ 344 10 := by rw [q373_]; exact fl_u_ne (by first | exact nc_ rfl | decide | omega)
    have e379_ : F372_ 344 5 = F 344 5 := by rw [q373_]; exact fl_u_eq
    have e380_ : F320_ 5 2 = F 5 2 := (s322_ 5 2 rfl).trans (rfl)
    have e381_ : F333_ 5 2 = F 5 2 := (s335_ 5 2 rfl).trans (e380_)
    have e382_ : F372_ 5 2 = F 5 2 := by rw [q373_]; exact (fl_u_ne (by first | exact nc_ rfl | decide | omega)).trans (e381_)
    have b383_ : 0 ≤ F 5 2 ∧ F 5 2 ≤ 600 := gi_g hgi rfl
    have e384_ : F320_ 344 33 = F 344 33 := (s322_ 344 33 rfl).trans (rfl)
    have e385_ : F333_ 344 33 = F 344 33 := (s335_ 344 33 rfl).trans (e384_)
    have e386_ : F372_ 344 33 = F 344 33 := by rw [q373_]; exact (fl_u_ne (by first | exact nc_ rfl | decide | omega)).trans (e385_)
    exact ⟨F372_, rfl, g374_, g375_, (by omega), (⟨by omega, by omega⟩), (⟨l, tl, (by rw [q373_]; exact (trm_u (trm_fs (trm_fs ht s322_ (by first | exact fs_rg rfl | exact fun r j hj => (fs_n (by omega) rfl))) s335_ (by first | exact fs_rg rfl | exact fun r j hj => (fs_n (by omega) rfl))) (by first | decide | exact nc_ rfl | omega))), hlt⟩), (by omega)⟩
  exfalso; omega
abbrev pq_51s (G : Nat → Nat → Option Nat) (F : fl_N) (X : xi_H) (K : fl_N) (c k : Int) : Outcome → xi_H → Prop := gqv (fun A => ∃ F' : fl_N, fl_H sh_T G F' ++ X = A ∧ gi F' ∧ fs [(344, 344, 5, 5), (344, 344, 9, 10)] F F' ∧ (¬ F 344 9 = 0 → ¬ F' 344 9 = 0) ∧ (0 ≤ F' 344 5 ∧ F' 344 5 ≤ K 1 6 - 1)) gqn
theorem mc_51s {G : Nat → Nat → Option Nat} (hG : gg G) (F : fl_N) (X : xi_H) (hgi : gi F) (K : fl_N) (c k : Int) (hgK : gi K) (hrk : rk K F) (hkt : rkt K) (hp : 0 ≤ F 344 5 ∧ F 344 5 ≤ K 1 6 - 1) (hc : c = 40 ∨ c = 41) (hck : k = c - 40) : fl_M xi_ms 51 2 41 [.ref 344, .int (Int32.ofInt c)] (fl_H sh_T G F ++ X) (pq_51s G F X K c k) := fun fr lo h1 h2 => fl_mono (mc_51 hG F X hgi K c k hgK hrk hkt hp hc hck fr lo h1 h2) (fun o A hq => by
  match o, hq with
  | .returned none, hq =>
    rcases hq with ⟨F', h, g, s, k, x_s, p⟩ | ⟨F', h, g, s, k, x_s, p⟩
    · exact ⟨F', h, g, s, fun _ => k, p⟩
    · exact ⟨F', h, g, s, fun h9 => absurd k.2 h9, p⟩
  | .returned (some _), hq => exact False.elim hq
  | .threw _, hq => exact False.elim hq)
abbrev pq_55s (G : Nat → Nat → Option Nat) (F : fl_N) (X : xi_H) (K : fl_N) (kw : Int) (w : List Int) : Outcome → xi_H → Prop := gqv (fun A => ∃ F' : fl_N, fl_H sh_T G F' ++ X = A ∧ gi F' ∧ fs [(344, 344, 5, 5), (344, 344, 9, 10)] F F' ∧ (¬ F 344 9 = 0 → ¬ F' 344 9 = 0) ∧ (0 ≤ F' 344 5 ∧ F' 344 5 ≤ K 1 6 - 1)) gqn
theorem mc_55s {G : Nat → Nat → Option Nat} (hG : gg G) (F : fl_N) (X : xi_H) (hgi : gi F) (K : fl_N) (kw : Int) (w : List Int) (hgK : gi K) (hrk : rk K F) (hkt : rkt K) (hp : 0 ≤ F 344 5 ∧ F 344 5 ≤ K 1 6 - 1) (hkw : 0 ≤ kw ∧ kw ≤ 18) (hw : (1 ≤ w.length ∧ w.length ≤ 16) ∧ ∀ q : Nat, q < w.length → w.getD q 0 ≠ 0) (hb : ∀ q : Nat, q < 16 → bt8 (F 346 (4 * kw.toNat + q / 4)) (24 - 8 * ((q : Int) % 4)) = w.getD q 0) : fl_M xi_ms 55 2 44 [.ref 344, .int (Int32.ofInt kw)] (fl_H sh_T G F ++ X) (pq_55s G F X K kw w) := fun fr lo h1 h2 => fl_mono (mc_55 hG F X hgi K kw w hgK hrk hkt hp hkw hw hb fr lo h1 h2) (fun o A hq => by
  match o, hq with
  | .returned none, hq =>
    rcases hq with ⟨F', h, g, s, k, x_s, p⟩ | ⟨F', h, g, s, k, x_s, p⟩
    · exact ⟨F', h, g, s, fun _ => k, p⟩
    · exact ⟨F', h, g, s, fun h9 => absurd k.2 h9, p⟩
  | .returned (some _), hq => exact False.elim hq
  | .threw _, hq => exact False.elim hq)
abbrev pq_58s (G : Nat → Nat → Option Nat) (F : fl_N) (X : xi_H) (K : fl_N) : Outcome → xi_H → Prop := gql (fun z A => ∃ F' : fl_N, fl_H sh_T G F' ++ X = A ∧ gi F' ∧ fs [(344, 344, 9, 10)] F F' ∧ (¬ F 344 9 = 0 → ¬ F' 344 9 = 0) ∧ (0 ≤ F' 344 5 ∧ F' 344 5 ≤ K 1 6 - 1) ∧ (0 ≤ z ∧ z < 2565726409) ∧ (F' 344 9 = 0 → F 344 5 < K 1 6 - 1)) gqn
theorem mc_58s {G : Nat → Nat → Option Nat} (hG : gg G) (F : fl_N) (X : xi_H) (hgi : gi F) (K : fl_N) (hgK : gi K) (hrk : rk K F) (hkt : rkt K) (hp : 0 ≤ F 344 5 ∧ F 344 5 ≤ K 1 6 - 1) : fl_M xi_ms 58 2 46 [.ref 344] (fl_H sh_T G F ++ X) (pq_58s G F X K) := fun fr lo h1 h2 => fl_mono (mc_58 hG F X hgi K hgK hrk hkt hp fr lo h1 h2) (fun o A hq => by
  match o, hq with
  | .returned (some (.long _)), ⟨z, hz, hq⟩ =>
    rcases hq with ⟨F', h, g, s, k, x_s, p, x_z⟩ | ⟨F', h, g, s, k, x_s, p, x_n, x_z, x_p, x_lt⟩
    · exact ⟨z, hz, ⟨F', h, g, s, fun _ => k, p, x_z, fun h9 => absurd h9 k⟩⟩
    · exact ⟨z, hz, ⟨F', h, g, s, fun h9 => absurd k.2 h9, p, x_z, fun _ => x_lt⟩⟩
  | .returned none, hq => exact False.elim hq
  | .returned (some (.int _)), hq => exact False.elim hq
  | .returned (some (.float _)), hq => exact False.elim hq
  | .returned (some (.double _)), hq => exact False.elim hq
  | .returned (some (.ref _)), hq => exact False.elim hq
  | .returned (some .null), hq => exact False.elim hq
  | .returned (some (.retAddr _)), hq => exact False.elim hq
  | .threw _, hq => exact False.elim hq)
abbrev pq_174s (G : Nat → Nat → Option Nat) (F : fl_N) (X : xi_H) (K : fl_N) (a ll k : Int) (l tl pl : List Int) (ps : List (List Int)) : Outcome → xi_H → Prop := gqv (fun A => ∃ F' : fl_N, fl_H sh_T G F' ++ X = A ∧ gi F' ∧ fs [(344, 344, 5, 5), (344, 344, 9, 10), (362, 363, 0, 100000)] F F' ∧ (¬ F 344 9 = 0 → ¬ F' 344 9 = 0) ∧ (0 ≤ F' 344 5 ∧ F' 344 5 ≤ K 1 6 - 1)) gqn
theorem mc_174s {G : Nat → Nat → Option Nat} (hG : gg G) (F : fl_N) (X : xi_H) (hgi : gi F) (K : fl_N) (a ll k : Int) (l tl pl : List Int) (ps : List (List Int)) (hgK : gi K) (hrk : rk K F) (hkt : rkt K) (hp : 0 ≤ F 344 5 ∧ F 344 5 ≤ K 1 6 - 1) (ht : trm F a k l tl) (hlt : l.length = tl.length) (ha : 0 ≤ a ∧ a ≤ 5) (hpl : rpn (F 350) (F 344 17) pl) (hps : rprd F ps ∧ ps.length = pl.length) (hll : 0 ≤ ll ∧ ll ≤ 43) (hla : rla a ll) : fl_M xi_ms 174 4 91 [.ref 344, .int (Int32.ofInt a), .int (Int32.ofInt ll)] (fl_H sh_T G F ++ X) (pq_174s G F X K a ll k l tl pl ps) := fun fr lo h1 h2 => fl_mono (mc_174 hG F X hgi K a ll k l tl pl ps hgK hrk hkt hp ht hlt ha hpl hps hll hla fr lo h1 h2) (fun o A hq => by
  match o, hq with
  | .returned none, hq =>
    rcases hq with ⟨F', h, g, s, k, x_s, p⟩ | ⟨F', h, g, s, k, x_s, p⟩
    · exact ⟨F', h, g, s, fun _ => k, p⟩
    · exact ⟨F', h, g, s, fun h9 => absurd k.2 h9, p⟩
  | .returned (some _), hq => exact False.elim hq
  | .threw _, hq => exact False.elim hq)
abbrev pq_175s (G : Nat → Nat → Option Nat) (F : fl_N) (X : xi_H) (K : fl_N) (a at_ k : Int) (l tl pl : List Int) (ps : List (List Int)) : Outcome → xi_H → Prop := gqv (fun A => ∃ F' : fl_N, fl_H sh_T G F' ++ X = A ∧ gi F' ∧ fs [(344, 344, 5, 5), (344, 344, 9, 10), (358, 358, 0, 100000), (360, 363, 0, 100000)] F F' ∧ (¬ F 344 9 = 0 → ¬ F' 344 9 = 0) ∧ (0 ≤ F' 344 5 ∧ F' 344 5 ≤ K 1 6 - 1)) gqn
theorem mc_175s {G : Nat → Nat → Option Nat} (hG : gg G) (F : fl_N) (X : xi_H) (hgi : gi F) (K : fl_N) (a at_ k : Int) (l tl pl : List Int) (ps : List (List Int)) (hgK : gi K) (hrk : rk K F) (hkt : rkt K) (hp : 0 ≤ F 344 5 ∧ F 344 5 ≤ K 1 6 - 1) (ht : trm F a k l tl) (hlt : l.length = tl.length) (ha : 0 ≤ a ∧ a ≤ 5) (hpl : rpn (F 350) (F 344 17) pl) (hps : rprd F ps ∧ ps.length = pl.length) (hat : 0 ≤ at_ ∧ at_ ≤ 40) (hla : rla a at_) (hc0 : F 358 a.toNat = 0) : fl_M xi_ms 175 6 142 [.ref 344, .int (Int32.ofInt a), .int (Int32.ofInt at_)] (fl_H sh_T G F ++ X) (pq_175s G F X K a at_ k l tl pl ps) := fun fr lo h1 h2 => fl_mono (mc_175 hG F X hgi K a at_ k l tl pl ps hgK hrk hkt hp ht hlt ha hpl hps hat hla hc0 fr lo h1 h2) (fun o A hq => by
  match o, hq with
  | .returned none, hq =>
    rcases hq with ⟨F', h, g, s, k, x_s, p⟩ | ⟨F', h, g, s, k, x_s, p⟩
    · exact ⟨F', h, g, s, fun _ => k, p⟩
    · exact ⟨F', h, g, s, fun h9 => absurd k.2 h9, p⟩
  | .returned (some _), hq => exact False.elim hq
  | .threw _, hq => exact False.elim hq)
/- CheapPlannerModel.pass -/
abbrev pq_61s (G : Nat → Nat → Option Nat) (F : fl_N) (X : xi_H) (K : fl_N) : Outcome → xi_H → Prop := gqv (fun A => ∃ F' : fl_N, fl_H sh_T G F' ++ X = A ∧ gi F' ∧ fs [(344, 344, 5, 5)] F F' ∧ (0 ≤ F' 344 5 ∧ F' 344 5 ≤ K 1 6 - 1)) gqn
theorem mc_61s {G : Nat → Nat → Option Nat} (hG : gg G) (F : fl_N) (X : xi_H) (hgi : gi F) (K : fl_N) (hgK : gi K) (hrk : rk K F) (hkt : rkt K) (hp : 0 ≤ F 344 5 ∧ F 344 5 ≤ K 1 6 - 1) (hlt : F 344 9 = 0 → F 344 5 < K 1 6 - 1) : fl_M xi_ms 61 1 20 [.ref 344] (fl_H sh_T G F ++ X) (pq_61s G F X K) := by
  intro fr lo hfr hlo
  show fl_R xi_ms 61 fr lo 0 [(0, .ref 344)] [] _ _
  have hP := rkt_p hkt hp.1 hp.2 hgK
  have hK16 : 0 ≤ K 1 6 ∧ K 1 6 ≤ 601 := gi_g hgK rfl
  refine ga_aload_n (v := .ref 344) hm_61 rfl rfl rfl ?_
  refine ga_dup hm_61 rfl rfl ?_
  have b1_ : 0 ≤ F 344 5 ∧ F 344 5 ≤ 600 := gi_g hgi rfl
  refine ga_geti (z := F 344 5) hm_61 rfl sc_344 rfl (rfl) ?_
  refine ga_aload_n (v := .ref 344) hm_61 rfl rfl rfl ?_
  refine gIi (nY := 1) (F := 0) (L := 0) (As := []) (b := 344) (rest := [.int (Int32.ofInt (F 344 5)), .ref 344]) hm_61 rfl hm_59 rfl rfl (fl_ob sc_344) rfl rfl rfl rfl rfl (by omega) (by omega) ?_
  intro f2_ l3_ h4_ h5_
  show fl_R xi_ms 59 f2_ l3_ 0 [(0, .ref 344)] [] _ _
  refine ga_aload_n (v := .ref 344) hm_59 rfl rfl rfl ?_
  have b6_ : 0 ≤ F 344 9 ∧ F 344 9 ≤ 5 := gi_g hgi rfl
  refine ga_geti (z := F 344 9) hm_59 rfl sc_344 rfl (rfl) ?_
  refine fl_if_le (a := F 344 9) hm_59 rfl ⟨by omega, by omega⟩ (fun h7_ => ?_) (fun h8_ => ?_)
  ·
    refine fl_iconst hm_59 rfl ?_
    refine gr_i hm_59 rfl rfl (ga_nb (by omega)) ?_
    clear h4_ h5_ f2_ l3_
    refine fl_if_eq hm_61 rfl ⟨by omega, by omega⟩ (fun _ => ?_) (fun h => absurd (by omega) h)
    refine fl_iconst hm_61 rfl ?_
    refine ga_iadd (a := F 344 5) (b := 1) (c := F 344 5 + 1) hm_61 rfl (by omega) ?_
    refine ga_puti (z := F 344 5 + 1) hm_61 rfl sc_344 rfl rfl ?_
    obtain ⟨F9_, q10_⟩ : ∃ Fq_, Fq_ = (fl_u F 344 5 (F 344 5 + 1)) := ⟨_, rfl⟩
    rw [← q10_]
    have g11_ : gi F9_ := by rw [q10_]; exact gi_u (hgi) rfl (by omega) (by omega)
    have g12_ : fs [(344, 344, 5, 5)] F F9_ := by rw [q10_]; exact fs_u (fs_refl) rfl
    have rk13_ : rk K F9_ := by rw [q10_]; exact rk_u (hrk) (by first | decide | exact nc_ rfl | omega) (by first | decide | exact nc_ rfl | omega)
    refine gr_v hm_61 rfl rfl ?_
    have e14_ : F9_ 344 5 = F 344 5 + 1 := by rw [q10_]; exact fl_u_eq
    exact ⟨F9_, rfl, g11_, g12_, (⟨by omega, by omega⟩)⟩
  refine fl_iconst hm_59 rfl ?_
  refine fl_goto hm_59 rfl ?_
  refine gr_i hm_59 rfl rfl (ga_nb (by omega)) ?_
  clear h4_ h5_ f2_ l3_
  refine fl_if_eq hm_61 rfl ⟨by omega, by omega⟩ (fun h => absurd h (by omega)) (fun _ => ?_)
  refine fl_iconst hm_61 rfl ?_
  refine fl_goto hm_61 rfl ?_
  refine ga_iadd (a := F 344 5) (b := 0) (c := F 344 5) hm_61 rfl (by omega) ?_
  refine ga_puti (z := F 344 5) hm_61 rfl sc_344 rfl rfl ?_
  obtain ⟨F15_, q16_⟩ : ∃ Fq_, Fq_ = (fl_u F 344 5 (F 344 5)) := ⟨_, rfl⟩
  rw [← q16_]
  have g17_ : gi F15_ := by rw [q16_]; exact gi_u (hgi) rfl (by omega) (by omega)
  have g18_ : fs [(344, 344, 5, 5)] F F15_ := by rw [q16_]; exact fs_u (fs_refl) rfl
  have rk19_ : rk K F15_ := by rw [q16_]; exact rk_u (hrk) (by first | decide | exact nc_ rfl | omega) (by first | decide | exact nc_ rfl | omega)
  refine gr_v hm_61 rfl rfl ?_
  have e20_ : F15_ 344 5 = F 344 5 := by rw [q16_]; exact fl_u_eq
  exact ⟨F15_, rfl, g17_, g18_, (⟨by omega, by omega⟩)⟩
/- CheapPlannerModel.readInit -/
abbrev pq_178 (G : Nat → Nat → Option Nat) (F : fl_N) (X : xi_H) (K : fl_N) (l tl pl : List Int) (ps : List (List Int)) : Outcome → xi_H → Prop := gqv (fun A => ∃ F' : fl_N, fl_H sh_T G F' ++ X = A ∧ gi F' ∧ fs [(344, 344, 5, 5), (344, 344, 9, 10), (344, 344, 64, 64), (362, 363, 0, 100000)] F F' ∧ (¬ F 344 9 = 0 → ¬ F' 344 9 = 0) ∧ (0 ≤ F' 344 5 ∧ F' 344 5 ≤ K 1 6 - 1)) gqn
theorem mc_178 {G : Nat → Nat → Option Nat} (hG : gg G) (F : fl_N) (X : xi_H) (hgi : gi F) (K : fl_N) (l tl pl : List Int) (ps : List (List Int)) (hgK : gi K) (hrk : rk K F) (hkt : rkt K) (hp : 0 ≤ F 344 5 ∧ F 344 5 ≤ K 1 6 - 1) (ht : trm F 5 2 l tl) (hlt : l.length = tl.length) (hpl : rpn (F 350) (F 344 17) pl) (hps : rprd F ps ∧ ps.length = pl.length) : fl_M xi_ms 178 5 117 [.ref 344] (fl_H sh_T G F ++ X) (pq_178 G F X K l tl pl ps) := by
  intro fr lo hfr hlo
  show fl_R xi_ms 178 fr lo 0 [(0, .ref 344)] [] _ _
  have hP := (rkt_p hkt hp.1 hp.2 hgK).1
  have hK16 : 0 ≤ K 1 6 ∧ K 1 6 ≤ 601 := gi_g hgK rfl
  have hko := hkt.1
  refine fl_iconst hm_178 rfl ?_
  refine ga_istore_n (lv2 := [(1, .int (Int32.ofInt 0)), (0, .ref 344)]) hm_178 rfl (Nat.le_of_ble_eq_true rfl) rfl ?_
  refine ga_aload_n (v := .ref 344) hm_178 rfl rfl rfl ?_
  refine ga_lconst (z := 0) hm_178 rfl rfl ?_
  refine ga_putl hm_178 rfl sc_344 rfl rfl ?_
  obtain ⟨F1_, q2_⟩ : ∃ Fq_, Fq_ = (fl_u F 344 64 0) := ⟨_, rfl⟩
  rw [← q2_]
  have g3_ : gi F1_ := by rw [q2_]; exact gi_u (hgi) rfl (by omega) (by omega)
  have g4_ : fs [(344, 344, 5, 5), (344, 344, 9, 10), (344, 344, 64, 64), (362, 363, 0, 100000)] F F1_ := by rw [q2_]; exact fs_u (fs_refl) rfl
  have rk5_ : rk K F1_ := by rw [q2_]; exact rk_u (hrk) (by first | decide | exact nc_ rfl | omega) (by first | decide | exact nc_ rfl | omega)
  have L7_ : ∀ (n6_ : Nat) (n : Int) (F1 : fl_N), (13 - n : Int).toNat = n6_ → (gi F1) → (fs [(344, 344, 5, 5), (344, 344, 9, 10), (344, 344, 64, 64), (362, 363, 0, 100000)] F1_ F1) → (0 ≤ n ∧ n ≤ 12) → (0 ≤ F1 344 5 ∧ F1 344 5 ≤ K 1 6 - 1) → (¬ F 344 9 = 0 → ¬ F1 344 9 = 0) → fl_R xi_ms 178 fr lo 7 [(1, .int (Int32.ofInt n)), (0, .ref 344)] [] (fl_H sh_T G F1 ++ X) (pq_178 G F X K l tl pl ps) := by
    intro n6_
    induction n6_ using Nat.strongRecOn with
    | ind n6_ ih8_ =>
    intro n F1 hn9_ hg_F1 hf_F1 hn hp1 hk1
    have g10_ : fs [(344, 344, 5, 5), (344, 344, 9, 10), (344, 344, 64, 64), (362, 363, 0, 100000)] F F1 := fs_tr g4_ hf_F1 rfl
    have rk11_ : rk K F1 := rk_fs rk5_ hf_F1 (fs_rg rfl) rfl
    have hP1 := (rkt_p hkt (p := F1 344 5) (by omega) (by omega) hgK).1
    refine ga_aload_n (v := .ref 344) hm_178 rfl rfl rfl ?_
    refine gIi (nY := 1) (F := 0) (L := 0) (As := []) (b := 344) (rest := []) hm_178 rfl hm_59 rfl rfl (fl_ob sc_344) rfl rfl rfl rfl rfl (by omega) (by omega) ?_
    intro f12_ l13_ h14_ h15_
    show fl_R xi_ms 59 f12_ l13_ 0 [(0, .ref 344)] [] _ _
    refine ga_aload_n (v := .ref 344) hm_59 rfl rfl rfl ?_
    have b16_ : 0 ≤ F1 344 9 ∧ F1 344 9 ≤ 5 := gi_g hg_F1 rfl
    refine ga_geti (z := F1 344 9) hm_59 rfl sc_344 rfl (rfl) ?_
    refine fl_if_le (a := F1 344 9) hm_59 rfl ⟨by omega, by omega⟩ (fun h17_ => ?_) (fun h18_ => ?_)
    ·
      refine fl_iconst hm_59 rfl ?_
      refine gr_i hm_59 rfl rfl (ga_nb (by omega)) ?_
      clear h14_ h15_ f12_ l13_
      refine fl_if_ne hm_178 rfl ⟨by omega, by omega⟩ (fun h => absurd h (by omega)) (fun _ => ?_)
      refine ga_aload_n (v := .ref 344) hm_178 rfl rfl rfl ?_
      refine fl_bipush hm_178 rfl rfl ?_
      have b19_ : 0 ≤ F1 344 5 ∧ F1 344 5 ≤ 600 := gi_g hg_F1 rfl
      refine gVi (nY := 2) (F := 1) (L := 20) (As := [.int (Int32.ofInt 41)]) (b := 344) (rest := []) hm_178 rfl hm_52 rfl rfl (fl_ob sc_344) rfl rfl rfl rfl rfl (by omega) (by omega) (mc_52 hG F1 X hg_F1 (K) (41) hgK rk11_ hkt (⟨by omega, by omega⟩) (by omega)) (fun _ _ h => False.elim h) ?_
      rintro z20_ A1_ (⟨hA_, hz_, c21_⟩ | ⟨hA_, hz_, c22_, c23_⟩)
      ·
        subst hA_
        subst hz_
        refine fl_if_ne hm_178 rfl ⟨by omega, by omega⟩ (fun h => absurd h (by omega)) (fun _ => ?_)
        refine ga_iload_n (z := n) hm_178 rfl rfl ?_
        refine fl_bipush hm_178 rfl rfl ?_
        refine fx_icmp_ne (a := n) (b := 12) hm_178 rfl ⟨by omega, by omega⟩ ⟨by omega, by omega⟩ (fun h24_ => ?_) (fun h25_ => ?_)
        ·
          refine ga_aload_n (v := .ref 344) hm_178 rfl rfl rfl ?_
          refine fl_bipush hm_178 rfl rfl ?_
          refine gVv (nY := 2) (F := 2) (L := 41) (As := [.int (Int32.ofInt 40)]) (b := 344) (rest := []) hm_178 rfl hm_51 rfl rfl (fl_ob sc_344) rfl rfl rfl rfl rfl (by omega) (by omega) (mc_51s hG F1 X hg_F1 (K) (40) (0) hgK rk11_ hkt (⟨by omega, by omega⟩) (by omega) (by omega)) (fun _ _ h => False.elim h) ?_
          rintro A1_ ⟨F29_, hA_, g30_, s31_, c27_, c28_⟩
          subst hA_
          have g32_ : fs [(344, 344, 5, 5), (344, 344, 9, 10), (344, 344, 64, 64), (362, 363, 0, 100000)] F F29_ := fs_tr g10_ s31_ rfl
          have rk33_ : rk K F29_ := rk_fs rk11_ s31_ (fs_rg rfl) rfl
          refine ga_aload_n (v := .ref 344) hm_178 rfl rfl rfl ?_
          refine fl_iconst hm_178 rfl ?_
          refine fl_bipush hm_178 rfl rfl ?_
          have b34_ : 0 ≤ F29_ 344 5 ∧ F29_ 344 5 ≤ 600 := gi_g g30_ rfl
          refine gVv (nY := 7) (F := 4) (L := 91) (As := [.int (Int32.ofInt 5), .int (Int32.ofInt 43)]) (b := 344) (rest := []) hm_178 rfl hm_174 rfl rfl (fl_ob sc_344) rfl rfl rfl rfl rfl (by omega) (by omega) (mc_174s hG F29_ X g30_ (K) (5) (43) (2) (l) (tl) (pl) (ps) hgK rk33_ hkt (⟨by omega, by omega⟩) ((trm_fs (trm_fs (by rw [q2_]; exact (trm_u ht (by first | decide | exact nc_ rfl | omega))) hf_F1 (by first | exact fs_rg rfl | exact fun r j hj => (fs_n (by omega) (fs_n (by omega) (fs_n (by omega) (fs_n (by omega) rfl)))))) s31_ (by first | exact fs_rg rfl | exact fun r j hj => (fs_n (by omega) (fs_n (by omega) rfl))))) (hlt) (⟨by omega, by omega⟩) ((rpn_fs (rpn_fs (by rw [q2_]; exact (rpn_u hpl (by first | decide | exact nc_ rfl | omega) (by first | decide | exact nc_ rfl | omega))) hf_F1 (fun _ => (by first | exact fs_c rfl | exact (fs_n (by omega) (fs_n (by omega) (fs_n (by omega) (fs_n (by omega) rfl)))))) (by first | exact fs_c rfl | exact (fs_n (by omega) (fs_n (by omega) (fs_n (by omega) (fs_n (by omega) rfl)))))) s31_ (fun _ => (by first | exact fs_c rfl | exact (fs_n (by omega) (fs_n (by omega) rfl)))) (by first | exact fs_c rfl | exact (fs_n (by omega) (fs_n (by omega) rfl))))) (⟨(rprd_fs (rprd_fs (by rw [q2_]; exact (rprd_u hps.1 (by first | decide | exact nc_ rfl | omega))) hf_F1 (by first | exact fs_rg rfl | exact fun r j hj => (fs_n (by omega) (fs_n (by omega) (fs_n (by omega) (fs_n (by omega) rfl)))))) s31_ (by first | exact fs_rg rfl | exact fun r j hj => (fs_n (by omega) (fs_n (by omega) rfl)))), hps.2⟩) (⟨by omega, by omega⟩) (Or.inr (by omega))) (fun _ _ h => False.elim h) ?_
          have b36_ : 0 ≤ F29_ 344 9 ∧ F29_ 344 9 ≤ 5 := gi_g g30_ rfl
          rintro A1_ ⟨F39_, hA_, g40_, s41_, c37_, c38_⟩
          subst hA_
          have g42_ : fs [(344, 344, 5, 5), (344, 344, 9, 10), (344, 344, 64, 64), (362, 363, 0, 100000)] F F39_ := fs_tr g32_ s41_ rfl
          have rk43_ : rk K F39_ := rk_fs rk33_ s41_ (fs_rg rfl) rfl
          refine ga_aload_n (v := .ref 344) hm_178 rfl rfl rfl ?_
          refine gIi (nY := 1) (F := 0) (L := 0) (As := []) (b := 344) (rest := []) hm_178 rfl hm_59 rfl rfl (fl_ob sc_344) rfl rfl rfl rfl rfl (by omega) (by omega) ?_
          intro f44_ l45_ h46_ h47_
          show fl_R xi_ms 59 f44_ l45_ 0 [(0, .ref 344)] [] _ _
          refine ga_aload_n (v := .ref 344) hm_59 rfl rfl rfl ?_
          have b48_ : 0 ≤ F39_ 344 9 ∧ F39_ 344 9 ≤ 5 := gi_g g40_ rfl
          refine ga_geti (z := F39_ 344 9) hm_59 rfl sc_344 rfl (rfl) ?_
          refine fl_if_le (a := F39_ 344 9) hm_59 rfl ⟨by omega, by omega⟩ (fun h49_ => ?_) (fun h50_ => ?_)
          ·
            refine fl_iconst hm_59 rfl ?_
            refine gr_i hm_59 rfl rfl (ga_nb (by omega)) ?_
            clear h46_ h47_ f44_ l45_
            refine fl_if_eq hm_178 rfl ⟨by omega, by omega⟩ (fun _ => ?_) (fun h => absurd (by omega) h)
            refine ga_aload_n (v := .ref 344) hm_178 rfl rfl rfl ?_
            have e51_ : F1_ 344 36 = F 344 36 := by rw [q2_]; exact fl_u_ne (by first | exact nc_ rfl | decide | omega)
            have e52_ : F1 344 36 = F 344 36 := (hf_F1 344 36 rfl).trans (e51_)
            have e53_ : F29_ 344 36 = F 344 36 := (s31_ 344 36 rfl).trans (e52_)
            have e54_ : F39_ 344 36 = F 344 36 := (s41_ 344 36 rfl).trans (e53_)
            have b55_ : 0 ≤ F 344 36 ∧ F 344 36 ≤ 216 := gi_g hgi rfl
            refine ga_geti (z := F 344 36) hm_178 rfl sc_344 rfl (e54_) ?_
            refine fl_bipush hm_178 rfl rfl ?_
            refine fl_icmp_gt (a := F 344 36) (b := 40) hm_178 rfl ⟨by omega, by omega⟩ ⟨by omega, by omega⟩ (fun h56_ => ?_) (fun h57_ => ?_)
            ·
              refine ga_inc (a := n) (c := n + 1) (lv2 := [(1, .int (Int32.ofInt (n + 1))), (0, .ref 344)]) hm_178 rfl rfl (Nat.le_of_ble_eq_true rfl) rfl rfl ?_
              refine fl_goto hm_178 rfl ?_
              have b58_ : 0 ≤ F39_ 344 5 ∧ F39_ 344 5 ≤ 600 := gi_g g40_ rfl
              have b59_ : 0 ≤ K 1 6 ∧ K 1 6 ≤ 601 := gi_g hgK rfl
              have b60_ : 0 ≤ F 344 9 ∧ F 344 9 ≤ 5 := gi_g hgi rfl
              exact ih8_ _ (by omega) (n + 1) F39_ rfl g40_ (fs_tr (fs_tr hf_F1 s31_ rfl) s41_ rfl) (by omega) (⟨by omega, by omega⟩) (by omega)
            refine ga_aload_n (v := .ref 344) hm_178 rfl rfl rfl ?_
            refine ga_dup hm_178 rfl rfl ?_
            have e61_ : F29_ 344 64 = F1 344 64 := (s31_ 344 64 rfl).trans (rfl)
            have e62_ : F39_ 344 64 = F1 344 64 := (s41_ 344 64 rfl).trans (e61_)
            have b63_ : -9223372036854775808 ≤ F1 344 64 ∧ F1 344 64 ≤ 9223372036854775807 := gi_g hg_F1 rfl
            refine ga_getl (z := F1 344 64) hm_178 rfl sc_344 rfl (e62_) ?_
            refine ga_lconst (z := 1) hm_178 rfl rfl ?_
            refine ga_aload_n (v := .ref 344) hm_178 rfl rfl rfl ?_
            refine ga_aload_n (v := .ref 344) hm_178 rfl rfl rfl ?_
            refine ga_getr (b := 362) hm_178 rfl sc_344 rfl ?_
            refine fl_bipush hm_178 rfl rfl ?_
            have b64_ : 0 ≤ F39_ 362 43 ∧ F39_ 362 43 ≤ 5 := gi_g g40_ rfl
            refine ga_iald (z := 43) (w := F39_ 362 43) hm_178 rfl sc_362 (by omega) (by omega) (by omega) (rfl) ?_
            refine ga_aload_n (v := .ref 344) hm_178 rfl rfl rfl ?_
            refine ga_getr (b := 363) hm_178 rfl sc_344 rfl ?_
            refine fl_bipush hm_178 rfl rfl ?_
            have b65_ := gi_t363 g40_ (86)
            refine ga_iald (z := 86) (w := F39_ 363 86) hm_178 rfl sc_363 (by omega) (by omega) (by omega) (rfl) ?_
            refine ga_aload_n (v := .ref 344) hm_178 rfl rfl rfl ?_
            refine ga_getr (b := 363) hm_178 rfl sc_344 rfl ?_
            refine fl_bipush hm_178 rfl rfl ?_
            have b66_ := gi_t363 g40_ (87)
            refine ga_iald (z := 87) (w := F39_ 363 87) hm_178 rfl sc_363 (by omega) (by omega) (by omega) (rfl) ?_
            refine gVi (nY := 5) (F := 0) (L := 0) (As := [.int (Int32.ofInt (F39_ 362 43)), .int (Int32.ofInt (F39_ 363 86)), .int (Int32.ofInt (F39_ 363 87))]) (b := 344) (rest := [.long (Int64.ofInt 1), .long (Int64.ofInt (F1 344 64)), .ref 344]) hm_178 rfl hm_160 rfl rfl (fl_ob sc_344) rfl rfl rfl rfl rfl (by omega) (by omega) (mc_160 hG F39_ X g40_ (F39_ 362 43) (F39_ 363 86) (F39_ 363 87) (⟨by omega, by omega⟩) (⟨by omega, by omega⟩) (⟨by omega, by omega⟩)) (fun _ _ h => False.elim h) ?_
            rintro z67_ A1_ ⟨hA_, c68_⟩
            subst hA_
            refine ga_lany hm_178 rfl rfl rfl (fun z69_ ⟨h70_, h71_⟩ => ?_)
            refine ga_lany hm_178 rfl rfl rfl (fun z72_ ⟨h73_, h74_⟩ => ?_)
            refine ga_putl hm_178 rfl sc_344 rfl rfl ?_
            refine ga_inc (a := n) (c := n + 1) (lv2 := [(1, .int (Int32.ofInt (n + 1))), (0, .ref 344)]) hm_178 rfl rfl (Nat.le_of_ble_eq_true rfl) rfl rfl ?_
            refine fl_goto hm_178 rfl ?_
            obtain ⟨F75_, q76_⟩ : ∃ Fq_, Fq_ = (fl_u F39_ 344 64 z72_) := ⟨_, rfl⟩
            rw [← q76_]
            have g77_ : gi F75_ := by rw [q76_]; exact gi_u (g40_) rfl (by omega) (by omega)
            have g78_ : fs [(344, 344, 5, 5), (344, 344, 9, 10), (344, 344, 64, 64), (362, 363, 0, 100000)] F F75_ := by rw [q76_]; exact fs_u (g42_) rfl
            have rk79_ : rk K F75_ := by rw [q76_]; exact rk_u (rk43_) (by first | decide | exact nc_ rfl | omega) (by first | decide | exact nc_ rfl | omega)
            have e80_ : F75_ 344 5 = F39_ 344 5 := by rw [q76_]; exact fl_u_ne (by first | exact nc_ rfl | decide | omega)
            have b81_ : 0 ≤ F39_ 344 5 ∧ F39_ 344 5 ≤ 600 := gi_g g40_ rfl
            have b82_ : 0 ≤ K 1 6 ∧ K 1 6 ≤ 601 := gi_g hgK rfl
            have e83_ : F75_ 344 9 = F39_ 344 9 := by rw [q76_]; exact fl_u_ne (by first | exact nc_ rfl | decide | omega)
            have b84_ : 0 ≤ F 344 9 ∧ F 344 9 ≤ 5 := gi_g hgi rfl
            have e85_ : F75_ 344 10 = F39_ 344 10 := by rw [q76_]; exact fl_u_ne (by first | exact nc_ rfl | decide | omega)
            exact ih8_ _ (by omega) (n + 1) F75_ rfl g77_ (by rw [q76_]; exact fs_u ((fs_tr (fs_tr hf_F1 s31_ rfl) s41_ rfl)) rfl) (by omega) (⟨by omega, by omega⟩) (by omega)
          refine fl_iconst hm_59 rfl ?_
          refine fl_goto hm_59 rfl ?_
          refine gr_i hm_59 rfl rfl (ga_nb (by omega)) ?_
          clear h46_ h47_ f44_ l45_
          refine fl_if_eq hm_178 rfl ⟨by omega, by omega⟩ (fun h => absurd h (by omega)) (fun _ => ?_)
          refine gr_v hm_178 rfl rfl ?_
          have b86_ : 0 ≤ F 344 9 ∧ F 344 9 ≤ 5 := gi_g hgi rfl
          have b87_ : 0 ≤ F39_ 344 5 ∧ F39_ 344 5 ≤ 600 := gi_g g40_ rfl
          exact ⟨F39_, rfl, g40_, g42_, (by omega), (⟨by omega, by omega⟩)⟩
        refine ga_aload_n (v := .ref 344) hm_178 rfl rfl rfl ?_
        refine fl_iconst hm_178 rfl ?_
        refine gVv (nY := 2) (F := 0) (L := 0) (As := [.int (Int32.ofInt 1)]) (b := 344) (rest := []) hm_178 rfl hm_54 rfl rfl (fl_ob sc_344) rfl rfl rfl rfl rfl (by omega) (by omega) (mc_54 hG F1 X hg_F1 (K) (1) hgK rk11_ hkt (⟨by omega, by omega⟩) (⟨by omega, by omega⟩)) (fun _ _ h => False.elim h) ?_
        have b89_ : 0 ≤ F1 344 10 ∧ F1 344 10 ≤ 600 := gi_g hg_F1 rfl
        rintro A1_ ⟨F93_, hA_, g94_, s95_, c90_, c91_, c92_⟩
        subst hA_
        have g96_ : fs [(344, 344, 5, 5), (344, 344, 9, 10), (344, 344, 64, 64), (362, 363, 0, 100000)] F F93_ := fs_tr g10_ s95_ rfl
        have rk97_ : rk K F93_ := rk_fs rk11_ s95_ (fs_rg rfl) rfl
        have c91_s := c91_.1 (by omega)
        clear c91_
        refine ga_aload_n (v := .ref 344) hm_178 rfl rfl rfl ?_
        refine fl_bipush hm_178 rfl rfl ?_
        have e98_ : F93_ 344 5 = F1 344 5 := (s95_ 344 5 rfl).trans (rfl)
        refine gVv (nY := 2) (F := 2) (L := 41) (As := [.int (Int32.ofInt 40)]) (b := 344) (rest := []) hm_178 rfl hm_51 rfl rfl (fl_ob sc_344) rfl rfl rfl rfl rfl (by omega) (by omega) (mc_51s hG F93_ X g94_ (K) (40) (0) hgK rk97_ hkt (⟨by omega, by omega⟩) (by omega) (by omega)) (fun _ _ h => False.elim h) ?_
        have b100_ : 0 ≤ F93_ 344 9 ∧ F93_ 344 9 ≤ 5 := gi_g g94_ rfl
        rintro A1_ ⟨F103_, hA_, g104_, s105_, c101_, c102_⟩
        subst hA_
        have g106_ : fs [(344, 344, 5, 5), (344, 344, 9, 10), (344, 344, 64, 64), (362, 363, 0, 100000)] F F103_ := fs_tr g96_ s105_ rfl
        have rk107_ : rk K F103_ := rk_fs rk97_ s105_ (fs_rg rfl) rfl
        refine ga_aload_n (v := .ref 344) hm_178 rfl rfl rfl ?_
        refine fl_iconst hm_178 rfl ?_
        refine fl_bipush hm_178 rfl rfl ?_
        have b108_ : 0 ≤ F103_ 344 5 ∧ F103_ 344 5 ≤ 600 := gi_g g104_ rfl
        refine gVv (nY := 7) (F := 4) (L := 91) (As := [.int (Int32.ofInt 5), .int (Int32.ofInt 43)]) (b := 344) (rest := []) hm_178 rfl hm_174 rfl rfl (fl_ob sc_344) rfl rfl rfl rfl rfl (by omega) (by omega) (mc_174s hG F103_ X g104_ (K) (5) (43) (2) (l) (tl) (pl) (ps) hgK rk107_ hkt (⟨by omega, by omega⟩) ((trm_fs (trm_fs (trm_fs (by rw [q2_]; exact (trm_u ht (by first | decide | exact nc_ rfl | omega))) hf_F1 (by first | exact fs_rg rfl | exact fun r j hj => (fs_n (by omega) (fs_n (by omega) (fs_n (by omega) (fs_n (by omega) rfl)))))) s95_ (by first | exact fs_rg rfl | exact fun r j hj => (fs_n (by omega) rfl))) s105_ (by first | exact fs_rg rfl | exact fun r j hj => (fs_n (by omega) (fs_n (by omega) rfl))))) (hlt) (⟨by omega, by omega⟩) ((rpn_fs (rpn_fs (rpn_fs (by rw [q2_]; exact (rpn_u hpl (by first | decide | exact nc_ rfl | omega) (by first | decide | exact nc_ rfl | omega))) hf_F1 (fun _ => (by first | exact fs_c rfl | exact (fs_n (by omega) (fs_n (by omega) (fs_n (by omega) (fs_n (by omega) rfl)))))) (by first | exact fs_c rfl | exact (fs_n (by omega) (fs_n (by omega) (fs_n (by omega) (fs_n (by omega) rfl)))))) s95_ (fun _ => (by first | exact fs_c rfl | exact (fs_n (by omega) rfl))) (by first | exact fs_c rfl | exact (fs_n (by omega) rfl))) s105_ (fun _ => (by first | exact fs_c rfl | exact (fs_n (by omega) (fs_n (by omega) rfl)))) (by first | exact fs_c rfl | exact (fs_n (by omega) (fs_n (by omega) rfl))))) (⟨(rprd_fs (rprd_fs (rprd_fs (by rw [q2_]; exact (rprd_u hps.1 (by first | decide | exact nc_ rfl | omega))) hf_F1 (by first | exact fs_rg rfl | exact fun r j hj => (fs_n (by omega) (fs_n (by omega) (fs_n (by omega) (fs_n (by omega) rfl)))))) s95_ (by first | exact fs_rg rfl | exact fun r j hj => (fs_n (by omega) rfl))) s105_ (by first | exact fs_rg rfl | exact fun r j hj => (fs_n (by omega) (fs_n (by omega) rfl)))), hps.2⟩) (⟨by omega, by omega⟩) (Or.inr (by omega))) (fun _ _ h => False.elim h) ?_
        have b110_ : 0 ≤ F103_ 344 9 ∧ F103_ 344 9 ≤ 5 := gi_g g104_ rfl
        rintro A1_ ⟨F113_, hA_, g114_, s115_, c111_, c112_⟩
        subst hA_
        have g116_ : fs [(344, 344, 5, 5), (344, 344, 9, 10), (344, 344, 64, 64), (362, 363, 0, 100000)] F F113_ := fs_tr g106_ s115_ rfl
        have rk117_ : rk K F113_ := rk_fs rk107_ s115_ (fs_rg rfl) rfl
        refine ga_aload_n (v := .ref 344) hm_178 rfl rfl rfl ?_
        refine gIi (nY := 1) (F := 0) (L := 0) (As := []) (b := 344) (rest := []) hm_178 rfl hm_59 rfl rfl (fl_ob sc_344) rfl rfl rfl rfl rfl (by omega) (by omega) ?_
        intro f118_ l119_ h120_ h121_
        show fl_R xi_ms 59 f118_ l119_ 0 [(0, .ref 344)] [] _ _
        refine ga_aload_n (v := .ref 344) hm_59 rfl rfl rfl ?_
        have b122_ : 0 ≤ F113_ 344 9 ∧ F113_ 344 9 ≤ 5 := gi_g g114_ rfl
        refine ga_geti (z := F113_ 344 9) hm_59 rfl sc_344 rfl (rfl) ?_
        refine fl_if_le (a := F113_ 344 9) hm_59 rfl ⟨by omega, by omega⟩ (fun h123_ => ?_) (fun h124_ => ?_)
        ·
          refine fl_iconst hm_59 rfl ?_
          refine gr_i hm_59 rfl rfl (ga_nb (by omega)) ?_
          clear h120_ h121_ f118_ l119_
          refine fl_if_eq hm_178 rfl ⟨by omega, by omega⟩ (fun _ => ?_) (fun h => absurd (by omega) h)
          refine ga_aload_n (v := .ref 344) hm_178 rfl rfl rfl ?_
          have e125_ : F1_ 344 36 = F 344 36 := by rw [q2_]; exact fl_u_ne (by first | exact nc_ rfl | decide | omega)
          have e126_ : F1 344 36 = F 344 36 := (hf_F1 344 36 rfl).trans (e125_)
          have e127_ : F93_ 344 36 = F 344 36 := (s95_ 344 36 rfl).trans (e126_)
          have e128_ : F103_ 344 36 = F 344 36 := (s105_ 344 36 rfl).trans (e127_)
          have e129_ : F113_ 344 36 = F 344 36 := (s115_ 344 36 rfl).trans (e128_)
          have b130_ : 0 ≤ F 344 36 ∧ F 344 36 ≤ 216 := gi_g hgi rfl
          refine ga_geti (z := F 344 36) hm_178 rfl sc_344 rfl (e129_) ?_
          refine fl_bipush hm_178 rfl rfl ?_
          refine fl_icmp_gt (a := F 344 36) (b := 40) hm_178 rfl ⟨by omega, by omega⟩ ⟨by omega, by omega⟩ (fun h131_ => ?_) (fun h132_ => ?_)
          ·
            refine ga_inc (a := n) (c := n + 1) (lv2 := [(1, .int (Int32.ofInt (n + 1))), (0, .ref 344)]) hm_178 rfl rfl (Nat.le_of_ble_eq_true rfl) rfl rfl ?_
            refine fl_goto hm_178 rfl ?_
            have b133_ : 0 ≤ F113_ 344 5 ∧ F113_ 344 5 ≤ 600 := gi_g g114_ rfl
            have b134_ : 0 ≤ K 1 6 ∧ K 1 6 ≤ 601 := gi_g hgK rfl
            have b135_ : 0 ≤ F 344 9 ∧ F 344 9 ≤ 5 := gi_g hgi rfl
            exact ih8_ _ (by omega) (n + 1) F113_ rfl g114_ (fs_tr (fs_tr (fs_tr hf_F1 s95_ rfl) s105_ rfl) s115_ rfl) (by omega) (⟨by omega, by omega⟩) (by omega)
          refine ga_aload_n (v := .ref 344) hm_178 rfl rfl rfl ?_
          refine ga_dup hm_178 rfl rfl ?_
          have e136_ : F93_ 344 64 = F1 344 64 := (s95_ 344 64 rfl).trans (rfl)
          have e137_ : F103_ 344 64 = F1 344 64 := (s105_ 344 64 rfl).trans (e136_)
          have e138_ : F113_ 344 64 = F1 344 64 := (s115_ 344 64 rfl).trans (e137_)
          have b139_ : -9223372036854775808 ≤ F1 344 64 ∧ F1 344 64 ≤ 9223372036854775807 := gi_g hg_F1 rfl
          refine ga_getl (z := F1 344 64) hm_178 rfl sc_344 rfl (e138_) ?_
          refine ga_lconst (z := 1) hm_178 rfl rfl ?_
          refine ga_aload_n (v := .ref 344) hm_178 rfl rfl rfl ?_
          refine ga_aload_n (v := .ref 344) hm_178 rfl rfl rfl ?_
          refine ga_getr (b := 362) hm_178 rfl sc_344 rfl ?_
          refine fl_bipush hm_178 rfl rfl ?_
          have b140_ : 0 ≤ F113_ 362 43 ∧ F113_ 362 43 ≤ 5 := gi_g g114_ rfl
          refine ga_iald (z := 43) (w := F113_ 362 43) hm_178 rfl sc_362 (by omega) (by omega) (by omega) (rfl) ?_
          refine ga_aload_n (v := .ref 344) hm_178 rfl rfl rfl ?_
          refine ga_getr (b := 363) hm_178 rfl sc_344 rfl ?_
          refine fl_bipush hm_178 rfl rfl ?_
          have b141_ := gi_t363 g114_ (86)
          refine ga_iald (z := 86) (w := F113_ 363 86) hm_178 rfl sc_363 (by omega) (by omega) (by omega) (rfl) ?_
          refine ga_aload_n (v := .ref 344) hm_178 rfl rfl rfl ?_
          refine ga_getr (b := 363) hm_178 rfl sc_344 rfl ?_
          refine fl_bipush hm_178 rfl rfl ?_
          have b142_ := gi_t363 g114_ (87)
          refine ga_iald (z := 87) (w := F113_ 363 87) hm_178 rfl sc_363 (by omega) (by omega) (by omega) (rfl) ?_
          refine gVi (nY := 5) (F := 0) (L := 0) (As := [.int (Int32.ofInt (F113_ 362 43)), .int (Int32.ofInt (F113_ 363 86)), .int (Int32.ofInt (F113_ 363 87))]) (b := 344) (rest := [.long (Int64.ofInt 1), .long (Int64.ofInt (F1 344 64)), .ref 344]) hm_178 rfl hm_160 rfl rfl (fl_ob sc_344) rfl rfl rfl rfl rfl (by omega) (by omega) (mc_160 hG F113_ X g114_ (F113_ 362 43) (F113_ 363 86) (F113_ 363 87) (⟨by omega, by omega⟩) (⟨by omega, by omega⟩) (⟨by omega, by omega⟩)) (fun _ _ h => False.elim h) ?_
          rintro z143_ A1_ ⟨hA_, c144_⟩
          subst hA_
          refine ga_lany hm_178 rfl rfl rfl (fun z145_ ⟨h146_, h147_⟩ => ?_)
          refine ga_lany hm_178 rfl rfl rfl (fun z148_ ⟨h149_, h150_⟩ => ?_)
          refine ga_putl hm_178 rfl sc_344 rfl rfl ?_
          refine ga_inc (a := n) (c := n + 1) (lv2 := [(1, .int (Int32.ofInt (n + 1))), (0, .ref 344)]) hm_178 rfl rfl (Nat.le_of_ble_eq_true rfl) rfl rfl ?_
          refine fl_goto hm_178 rfl ?_
          obtain ⟨F151_, q152_⟩ : ∃ Fq_, Fq_ = (fl_u F113_ 344 64 z148_) := ⟨_, rfl⟩
          rw [← q152_]
          have g153_ : gi F151_ := by rw [q152_]; exact gi_u (g114_) rfl (by omega) (by omega)
          have g154_ : fs [(344, 344, 5, 5), (344, 344, 9, 10), (344, 344, 64, 64), (362, 363, 0, 100000)] F F151_ := by rw [q152_]; exact fs_u (g116_) rfl
          have rk155_ : rk K F151_ := by rw [q152_]; exact rk_u (rk117_) (by first | decide | exact nc_ rfl | omega) (by first | decide | exact nc_ rfl | omega)
          have e156_ : F151_ 344 5 = F113_ 344 5 := by rw [q152_]; exact fl_u_ne (by first | exact nc_ rfl | decide | omega)
          have b157_ : 0 ≤ F113_ 344 5 ∧ F113_ 344 5 ≤ 600 := gi_g g114_ rfl
          have b158_ : 0 ≤ K 1 6 ∧ K 1 6 ≤ 601 := gi_g hgK rfl
          have e159_ : F151_ 344 9 = F113_ 344 9 := by rw [q152_]; exact fl_u_ne (by first | exact nc_ rfl | decide | omega)
          have b160_ : 0 ≤ F 344 9 ∧ F 344 9 ≤ 5 := gi_g hgi rfl
          have e161_ : F151_ 344 10 = F113_ 344 10 := by rw [q152_]; exact fl_u_ne (by first | exact nc_ rfl | decide | omega)
          exact ih8_ _ (by omega) (n + 1) F151_ rfl g153_ (by rw [q152_]; exact fs_u ((fs_tr (fs_tr (fs_tr hf_F1 s95_ rfl) s105_ rfl) s115_ rfl)) rfl) (by omega) (⟨by omega, by omega⟩) (by omega)
        refine fl_iconst hm_59 rfl ?_
        refine fl_goto hm_59 rfl ?_
        refine gr_i hm_59 rfl rfl (ga_nb (by omega)) ?_
        clear h120_ h121_ f118_ l119_
        refine fl_if_eq hm_178 rfl ⟨by omega, by omega⟩ (fun h => absurd h (by omega)) (fun _ => ?_)
        refine gr_v hm_178 rfl rfl ?_
        have b162_ : 0 ≤ F 344 9 ∧ F 344 9 ≤ 5 := gi_g hgi rfl
        have b163_ : 0 ≤ F113_ 344 5 ∧ F113_ 344 5 ≤ 600 := gi_g g114_ rfl
        exact ⟨F113_, rfl, g114_, g116_, (by omega), (⟨by omega, by omega⟩)⟩
      subst hA_
      subst hz_
      refine fl_if_ne hm_178 rfl ⟨by omega, by omega⟩ (fun _ => ?_) (fun h => absurd (by omega) h)
      refine gr_v hm_178 rfl rfl ?_
      have b164_ : 0 ≤ F 344 9 ∧ F 344 9 ≤ 5 := gi_g hgi rfl
      exact ⟨F1, rfl, hg_F1, g10_, (by omega), (⟨by omega, by omega⟩)⟩
    refine fl_iconst hm_59 rfl ?_
    refine fl_goto hm_59 rfl ?_
    refine gr_i hm_59 rfl rfl (ga_nb (by omega)) ?_
    clear h14_ h15_ f12_ l13_
    refine fl_if_ne hm_178 rfl ⟨by omega, by omega⟩ (fun _ => ?_) (fun h => absurd (by omega) h)
    refine gr_v hm_178 rfl rfl ?_
    have b165_ : 0 ≤ F 344 9 ∧ F 344 9 ≤ 5 := gi_g hgi rfl
    have b166_ : 0 ≤ F1 344 5 ∧ F1 344 5 ≤ 600 := gi_g hg_F1 rfl
    exact ⟨F1, rfl, hg_F1, g10_, (by omega), (⟨by omega, by omega⟩)⟩
  have e167_ : F1_ 344 5 = F 344 5 := by rw [q2_]; exact fl_u_ne (by first | exact nc_ rfl | decide | omega)
  have b168_ : 0 ≤ F 344 5 ∧ F 344 5 ≤ 600 := gi_g hgi rfl
  have b169_ : 0 ≤ K 1 6 ∧ K 1 6 ≤ 601 := gi_g hgK rfl
  have e170_ : F1_ 344 9 = F 344 9 := by rw [q2_]; exact fl_u_ne (by first | exact nc_ rfl | decide | omega)
  have b171_ : 0 ≤ F 344 9 ∧ F 344 9 ≤ 5 := gi_g hgi rfl
  have e172_ : F1_ 344 10 = F 344 10 := by rw [q2_]; exact fl_u_ne (by first | exact nc_ rfl | decide | omega)
  exact L7_ _ (0) F1_ rfl g3_ fs_refl (⟨by omega, by omega⟩) (⟨by omega, by omega⟩) (by omega)
/- CheapPlannerModel.readProblem -/
abbrev pq_184 (G : Nat → Nat → Option Nat) (F : fl_N) (X : xi_H) (K : fl_N) (ts pl : List Int) (ps : List (List Int)) : Outcome → xi_H → Prop := gqv (fun A => ∃ F' : fl_N, fl_H sh_T G F' ++ X = A ∧ gi F' ∧ fs [(344, 344, 5, 5), (344, 344, 9, 10), (344, 344, 33, 33), (344, 344, 36, 36), (344, 344, 64, 64), (358, 358, 0, 100000), (360, 366, 0, 100000)] F F' ∧ (0 ≤ F' 344 5 ∧ F' 344 5 ≤ K 1 6 - 1)) gqn
set_option maxHeartbeats 16000000 in
theorem mc_184 {G : Nat → Nat → Option Nat} (hG : gg G) (F : fl_N) (X : xi_H) (hgi : gi F) (K : fl_N) (ts pl : List Int) (ps : List (List Int)) (hgK : gi K) (hrk : rk K F) (hkt : rkt K) (hp : 0 ≤ F 344 5 ∧ F 344 5 ≤ K 1 6 - 1) (hts : rpn (F 349) (F 344 15) ts) (hpl : rpn (F 350) (F 344 17) pl) (hps : rprd F ps ∧ ps.length = pl.length) (h33 : F 344 33 = 0) : fl_M xi_ms 184 7 165 [.ref 344] (fl_H sh_T G F ++ X) (pq_184 G F X K ts pl ps) := by
  intro fr lo hfr hlo
  show fl_R xi_ms 184 fr lo 0 [(0, .ref 344)] [] _ _
  have hP := (rkt_p hkt hp.1 hp.2 hgK).1
  have hK16 : 0 ≤ K 1 6 ∧ K 1 6 ≤ 601 := gi_g hgK rfl
  have hko := hkt.1
  refine ga_aload_n (v := .ref 344) hm_184 rfl rfl rfl ?_
  refine fl_bipush hm_184 rfl rfl ?_
  have b1_ : 0 ≤ F 344 5 ∧ F 344 5 ≤ 600 := gi_g hgi rfl
  refine gVv (nY := 2) (F := 2) (L := 41) (As := [.int (Int32.ofInt 40)]) (b := 344) (rest := []) hm_184 rfl hm_51 rfl rfl (fl_ob sc_344) rfl rfl rfl rfl rfl (by omega) (by omega) (mc_51s hG F X hgi (K) (40) (0) hgK hrk hkt (⟨by omega, by omega⟩) (by omega) (by omega)) (fun _ _ h => False.elim h) ?_
  have b3_ : 0 ≤ F 344 9 ∧ F 344 9 ≤ 5 := gi_g hgi rfl
  rintro A1_ ⟨F6_, hA_, g7_, s8_, c4_, c5_⟩
  subst hA_
  have g9_ : fs [(344, 344, 5, 5), (344, 344, 9, 10), (344, 344, 33, 33), (344, 344, 36, 36), (344, 344, 64, 64), (358, 358, 0, 100000), (360, 366, 0, 100000)] F F6_ := fs_tr fs_refl s8_ rfl
  have rk10_ : rk K F6_ := rk_fs hrk s8_ (fs_rg rfl) rfl
  refine ga_aload_n (v := .ref 344) hm_184 rfl rfl rfl ?_
  refine fl_iconst hm_184 rfl ?_
  have b11_ : 0 ≤ F6_ 344 5 ∧ F6_ 344 5 ≤ 600 := gi_g g7_ rfl
  refine gVv (nY := 2) (F := 2) (L := 44) (As := [.int (Int32.ofInt 0)]) (b := 344) (rest := []) hm_184 rfl hm_55 rfl rfl (fl_ob sc_344) rfl rfl rfl rfl rfl (by omega) (by omega) (mc_55s hG F6_ X g7_ (K) (0) ([100, 101, 102, 105, 110, 101]) hgK rk10_ hkt (⟨by omega, by omega⟩) (⟨by omega, by omega⟩) (by decide) (kw_0 rk10_)) (fun _ _ h => False.elim h) ?_
  have b13_ : 0 ≤ F6_ 344 9 ∧ F6_ 344 9 ≤ 5 := gi_g g7_ rfl
  rintro A1_ ⟨F16_, hA_, g17_, s18_, c14_, c15_⟩
  subst hA_
  have g19_ : fs [(344, 344, 5, 5), (344, 344, 9, 10), (344, 344, 33, 33), (344, 344, 36, 36), (344, 344, 64, 64), (358, 358, 0, 100000), (360, 366, 0, 100000)] F F16_ := fs_tr g9_ s18_ rfl
  have rk20_ : rk K F16_ := rk_fs rk10_ s18_ (fs_rg rfl) rfl
  refine ga_aload_n (v := .ref 344) hm_184 rfl rfl rfl ?_
  refine fl_bipush hm_184 rfl rfl ?_
  have b21_ : 0 ≤ F16_ 344 5 ∧ F16_ 344 5 ≤ 600 := gi_g g17_ rfl
  refine gVv (nY := 2) (F := 2) (L := 41) (As := [.int (Int32.ofInt 40)]) (b := 344) (rest := []) hm_184 rfl hm_51 rfl rfl (fl_ob sc_344) rfl rfl rfl rfl rfl (by omega) (by omega) (mc_51s hG F16_ X g17_ (K) (40) (0) hgK rk20_ hkt (⟨by omega, by omega⟩) (by omega) (by omega)) (fun _ _ h => False.elim h) ?_
  have b23_ : 0 ≤ F16_ 344 9 ∧ F16_ 344 9 ≤ 5 := gi_g g17_ rfl
  rintro A1_ ⟨F26_, hA_, g27_, s28_, c24_, c25_⟩
  subst hA_
  have g29_ : fs [(344, 344, 5, 5), (344, 344, 9, 10), (344, 344, 33, 33), (344, 344, 36, 36), (344, 344, 64, 64), (358, 358, 0, 100000), (360, 366, 0, 100000)] F F26_ := fs_tr g19_ s28_ rfl
  have rk30_ : rk K F26_ := rk_fs rk20_ s28_ (fs_rg rfl) rfl
  refine ga_aload_n (v := .ref 344) hm_184 rfl rfl rfl ?_
  refine fl_bipush hm_184 rfl rfl ?_
  have b31_ : 0 ≤ F26_ 344 5 ∧ F26_ 344 5 ≤ 600 := gi_g g27_ rfl
  refine gVv (nY := 2) (F := 2) (L := 44) (As := [.int (Int32.ofInt 13)]) (b := 344) (rest := []) hm_184 rfl hm_55 rfl rfl (fl_ob sc_344) rfl rfl rfl rfl rfl (by omega) (by omega) (mc_55s hG F26_ X g27_ (K) (13) ([112, 114, 111, 98, 108, 101, 109]) hgK rk30_ hkt (⟨by omega, by omega⟩) (⟨by omega, by omega⟩) (by decide) (kw_13 rk30_)) (fun _ _ h => False.elim h) ?_
  have b33_ : 0 ≤ F26_ 344 9 ∧ F26_ 344 9 ≤ 5 := gi_g g27_ rfl
  rintro A1_ ⟨F36_, hA_, g37_, s38_, c34_, c35_⟩
  subst hA_
  have g39_ : fs [(344, 344, 5, 5), (344, 344, 9, 10), (344, 344, 33, 33), (344, 344, 36, 36), (344, 344, 64, 64), (358, 358, 0, 100000), (360, 366, 0, 100000)] F F36_ := fs_tr g29_ s38_ rfl
  have rk40_ : rk K F36_ := rk_fs rk30_ s38_ (fs_rg rfl) rfl
  refine ga_aload_n (v := .ref 344) hm_184 rfl rfl rfl ?_
  have b41_ : 0 ≤ F36_ 344 5 ∧ F36_ 344 5 ≤ 600 := gi_g g37_ rfl
  refine gVl (nY := 3) (F := 2) (L := 46) (As := []) (b := 344) (rest := []) hm_184 rfl hm_58 rfl rfl (fl_ob sc_344) rfl rfl rfl rfl rfl (by omega) (by omega) (mc_58s hG F36_ X g37_ (K) hgK rk40_ hkt (⟨by omega, by omega⟩)) (fun _ _ h => False.elim h) ?_
  have b43_ : 0 ≤ F36_ 344 9 ∧ F36_ 344 9 ≤ 5 := gi_g g37_ rfl
  rintro z42_ A1_ ⟨F48_, hA_, g49_, s50_, c44_, c45_, c46_, c47_⟩
  subst hA_
  have g51_ : fs [(344, 344, 5, 5), (344, 344, 9, 10), (344, 344, 33, 33), (344, 344, 36, 36), (344, 344, 64, 64), (358, 358, 0, 100000), (360, 366, 0, 100000)] F F48_ := fs_tr g39_ s50_ rfl
  have rk52_ : rk K F48_ := rk_fs rk40_ s50_ (fs_rg rfl) rfl
  refine ga_pop2 hm_184 rfl rfl ?_
  refine ga_aload_n (v := .ref 344) hm_184 rfl rfl rfl ?_
  have e53_ : F48_ 344 5 = F36_ 344 5 := (s50_ 344 5 rfl).trans (rfl)
  have b54_ : 0 ≤ F48_ 344 9 ∧ F48_ 344 9 ≤ 5 := gi_g g49_ rfl
  refine gVv (nY := 1) (F := 1) (L := 20) (As := []) (b := 344) (rest := []) hm_184 rfl hm_61 rfl rfl (fl_ob sc_344) rfl rfl rfl rfl rfl (by omega) (by omega) (mc_61s hG F48_ X g49_ (K) hgK rk52_ hkt (⟨by omega, by omega⟩) (by omega)) (fun _ _ h => False.elim h) ?_
  rintro A1_ ⟨F57_, hA_, g58_, s59_, c56_⟩
  subst hA_
  have g60_ : fs [(344, 344, 5, 5), (344, 344, 9, 10), (344, 344, 33, 33), (344, 344, 36, 36), (344, 344, 64, 64), (358, 358, 0, 100000), (360, 366, 0, 100000)] F F57_ := fs_tr g51_ s59_ rfl
  have rk61_ : rk K F57_ := rk_fs rk52_ s59_ (fs_rg rfl) rfl
  refine ga_aload_n (v := .ref 344) hm_184 rfl rfl rfl ?_
  refine fl_bipush hm_184 rfl rfl ?_
  have b62_ : 0 ≤ F57_ 344 5 ∧ F57_ 344 5 ≤ 600 := gi_g g58_ rfl
  refine gVv (nY := 2) (F := 2) (L := 41) (As := [.int (Int32.ofInt 41)]) (b := 344) (rest := []) hm_184 rfl hm_51 rfl rfl (fl_ob sc_344) rfl rfl rfl rfl rfl (by omega) (by omega) (mc_51s hG F57_ X g58_ (K) (41) (1) hgK rk61_ hkt (⟨by omega, by omega⟩) (by omega) (by omega)) (fun _ _ h => False.elim h) ?_
  have e64_ : F57_ 344 9 = F48_ 344 9 := (s59_ 344 9 rfl).trans (rfl)
  rintro A1_ ⟨F67_, hA_, g68_, s69_, c65_, c66_⟩
  subst hA_
  have g70_ : fs [(344, 344, 5, 5), (344, 344, 9, 10), (344, 344, 33, 33), (344, 344, 36, 36), (344, 344, 64, 64), (358, 358, 0, 100000), (360, 366, 0, 100000)] F F67_ := fs_tr g60_ s69_ rfl
  have rk71_ : rk K F67_ := rk_fs rk61_ s69_ (fs_rg rfl) rfl
  try simp only [e64_] at c65_
  refine ga_aload_n (v := .ref 344) hm_184 rfl rfl rfl ?_
  refine fl_bipush hm_184 rfl rfl ?_
  have b72_ : 0 ≤ F67_ 344 5 ∧ F67_ 344 5 ≤ 600 := gi_g g68_ rfl
  refine gVv (nY := 2) (F := 2) (L := 41) (As := [.int (Int32.ofInt 40)]) (b := 344) (rest := []) hm_184 rfl hm_51 rfl rfl (fl_ob sc_344) rfl rfl rfl rfl rfl (by omega) (by omega) (mc_51s hG F67_ X g68_ (K) (40) (0) hgK rk71_ hkt (⟨by omega, by omega⟩) (by omega) (by omega)) (fun _ _ h => False.elim h) ?_
  have b74_ : 0 ≤ F67_ 344 9 ∧ F67_ 344 9 ≤ 5 := gi_g g68_ rfl
  rintro A1_ ⟨F77_, hA_, g78_, s79_, c75_, c76_⟩
  subst hA_
  have g80_ : fs [(344, 344, 5, 5), (344, 344, 9, 10), (344, 344, 33, 33), (344, 344, 36, 36), (344, 344, 64, 64), (358, 358, 0, 100000), (360, 366, 0, 100000)] F F77_ := fs_tr g70_ s79_ rfl
  have rk81_ : rk K F77_ := rk_fs rk71_ s79_ (fs_rg rfl) rfl
  refine ga_aload_n (v := .ref 344) hm_184 rfl rfl rfl ?_
  refine fl_bipush hm_184 rfl rfl ?_
  have b82_ : 0 ≤ F77_ 344 5 ∧ F77_ 344 5 ≤ 600 := gi_g g78_ rfl
  refine gVv (nY := 2) (F := 2) (L := 44) (As := [.int (Int32.ofInt 14)]) (b := 344) (rest := []) hm_184 rfl hm_55 rfl rfl (fl_ob sc_344) rfl rfl rfl rfl rfl (by omega) (by omega) (mc_55s hG F77_ X g78_ (K) (14) ([58, 100, 111, 109, 97, 105, 110]) hgK rk81_ hkt (⟨by omega, by omega⟩) (⟨by omega, by omega⟩) (by decide) (kw_14 rk81_)) (fun _ _ h => False.elim h) ?_
  have b84_ : 0 ≤ F77_ 344 9 ∧ F77_ 344 9 ≤ 5 := gi_g g78_ rfl
  rintro A1_ ⟨F87_, hA_, g88_, s89_, c85_, c86_⟩
  subst hA_
  have g90_ : fs [(344, 344, 5, 5), (344, 344, 9, 10), (344, 344, 33, 33), (344, 344, 36, 36), (344, 344, 64, 64), (358, 358, 0, 100000), (360, 366, 0, 100000)] F F87_ := fs_tr g80_ s89_ rfl
  have rk91_ : rk K F87_ := rk_fs rk81_ s89_ (fs_rg rfl) rfl
  refine ga_aload_n (v := .ref 344) hm_184 rfl rfl rfl ?_
  have b92_ : 0 ≤ F87_ 344 5 ∧ F87_ 344 5 ≤ 600 := gi_g g88_ rfl
  refine gVl (nY := 3) (F := 2) (L := 46) (As := []) (b := 344) (rest := []) hm_184 rfl hm_58 rfl rfl (fl_ob sc_344) rfl rfl rfl rfl rfl (by omega) (by omega) (mc_58s hG F87_ X g88_ (K) hgK rk91_ hkt (⟨by omega, by omega⟩)) (fun _ _ h => False.elim h) ?_
  have b94_ : 0 ≤ F87_ 344 9 ∧ F87_ 344 9 ≤ 5 := gi_g g88_ rfl
  rintro z93_ A1_ ⟨F99_, hA_, g100_, s101_, c95_, c96_, c97_, c98_⟩
  subst hA_
  have g102_ : fs [(344, 344, 5, 5), (344, 344, 9, 10), (344, 344, 33, 33), (344, 344, 36, 36), (344, 344, 64, 64), (358, 358, 0, 100000), (360, 366, 0, 100000)] F F99_ := fs_tr g90_ s101_ rfl
  have rk103_ : rk K F99_ := rk_fs rk91_ s101_ (fs_rg rfl) rfl
  refine ga_lstore_n (lv2 := [(1, .long (Int64.ofInt z93_)), (0, .ref 344)]) hm_184 rfl (Nat.le_of_ble_eq_true rfl) rfl ?_
  refine ga_aload_n (v := .ref 344) hm_184 rfl rfl rfl ?_
  refine gIi (nY := 1) (F := 0) (L := 0) (As := []) (b := 344) (rest := []) hm_184 rfl hm_59 rfl rfl (fl_ob sc_344) rfl rfl rfl rfl rfl (by omega) (by omega) ?_
  intro f104_ l105_ h106_ h107_
  show fl_R xi_ms 59 f104_ l105_ 0 [(0, .ref 344)] [] _ _
  refine ga_aload_n (v := .ref 344) hm_59 rfl rfl rfl ?_
  have b108_ : 0 ≤ F99_ 344 9 ∧ F99_ 344 9 ≤ 5 := gi_g g100_ rfl
  refine ga_geti (z := F99_ 344 9) hm_59 rfl sc_344 rfl (rfl) ?_
  refine fl_if_le (a := F99_ 344 9) hm_59 rfl ⟨by omega, by omega⟩ (fun h109_ => ?_) (fun h110_ => ?_)
  ·
    refine fl_iconst hm_59 rfl ?_
    refine gr_i hm_59 rfl rfl (ga_nb (by omega)) ?_
    clear h106_ h107_ f104_ l105_
    refine fl_if_ne hm_184 rfl ⟨by omega, by omega⟩ (fun h => absurd h (by omega)) (fun _ => ?_)
    refine ga_lload_n (z := z93_) hm_184 rfl rfl ?_
    refine ga_aload_n (v := .ref 344) hm_184 rfl rfl rfl ?_
    have e111_ : F6_ 344 14 = F 344 14 := (s8_ 344 14 rfl).trans (rfl)
    have e112_ : F16_ 344 14 = F 344 14 := (s18_ 344 14 rfl).trans (e111_)
    have e113_ : F26_ 344 14 = F 344 14 := (s28_ 344 14 rfl).trans (e112_)
    have e114_ : F36_ 344 14 = F 344 14 := (s38_ 344 14 rfl).trans (e113_)
    have e115_ : F48_ 344 14 = F 344 14 := (s50_ 344 14 rfl).trans (e114_)
    have e116_ : F57_ 344 14 = F 344 14 := (s59_ 344 14 rfl).trans (e115_)
    have e117_ : F67_ 344 14 = F 344 14 := (s69_ 344 14 rfl).trans (e116_)
    have e118_ : F77_ 344 14 = F 344 14 := (s79_ 344 14 rfl).trans (e117_)
    have e119_ : F87_ 344 14 = F 344 14 := (s89_ 344 14 rfl).trans (e118_)
    have e120_ : F99_ 344 14 = F 344 14 := (s101_ 344 14 rfl).trans (e119_)
    have b121_ : 0 ≤ F 344 14 ∧ F 344 14 ≤ 2565726408 := gi_g hgi rfl
    refine ga_getl (z := F 344 14) hm_184 rfl sc_344 rfl (e120_) ?_
    refine ga_lcmpq (a := z93_) (b := F 344 14) hm_184 rfl rfl ⟨by omega, by omega⟩ ⟨by omega, by omega⟩ (fun h122_ => ?_) (fun h123_ => ?_)
    ·
      refine ga_aload_n (v := .ref 344) hm_184 rfl rfl rfl ?_
      have e124_ : F99_ 344 5 = F87_ 344 5 := (s101_ 344 5 rfl).trans (rfl)
      refine gVv (nY := 1) (F := 1) (L := 20) (As := []) (b := 344) (rest := []) hm_184 rfl hm_61 rfl rfl (fl_ob sc_344) rfl rfl rfl rfl rfl (by omega) (by omega) (mc_61s hG F99_ X g100_ (K) hgK rk103_ hkt (⟨by omega, by omega⟩) (by omega)) (fun _ _ h => False.elim h) ?_
      rintro A1_ ⟨F127_, hA_, g128_, s129_, c126_⟩
      subst hA_
      have g130_ : fs [(344, 344, 5, 5), (344, 344, 9, 10), (344, 344, 33, 33), (344, 344, 36, 36), (344, 344, 64, 64), (358, 358, 0, 100000), (360, 366, 0, 100000)] F F127_ := fs_tr g102_ s129_ rfl
      have rk131_ : rk K F127_ := rk_fs rk103_ s129_ (fs_rg rfl) rfl
      refine ga_aload_n (v := .ref 344) hm_184 rfl rfl rfl ?_
      refine fl_bipush hm_184 rfl rfl ?_
      have b132_ : 0 ≤ F127_ 344 5 ∧ F127_ 344 5 ≤ 600 := gi_g g128_ rfl
      refine gVv (nY := 2) (F := 2) (L := 41) (As := [.int (Int32.ofInt 41)]) (b := 344) (rest := []) hm_184 rfl hm_51 rfl rfl (fl_ob sc_344) rfl rfl rfl rfl rfl (by omega) (by omega) (mc_51s hG F127_ X g128_ (K) (41) (1) hgK rk131_ hkt (⟨by omega, by omega⟩) (by omega) (by omega)) (fun _ _ h => False.elim h) ?_
      have e134_ : F127_ 344 9 = F99_ 344 9 := (s129_ 344 9 rfl).trans (rfl)
      rintro A1_ ⟨F137_, hA_, g138_, s139_, c135_, c136_⟩
      subst hA_
      have g140_ : fs [(344, 344, 5, 5), (344, 344, 9, 10), (344, 344, 33, 33), (344, 344, 36, 36), (344, 344, 64, 64), (358, 358, 0, 100000), (360, 366, 0, 100000)] F F137_ := fs_tr g130_ s139_ rfl
      have rk141_ : rk K F137_ := rk_fs rk131_ s139_ (fs_rg rfl) rfl
      try simp only [e134_] at c135_
      refine ga_aload_n (v := .ref 344) hm_184 rfl rfl rfl ?_
      refine fl_bipush hm_184 rfl rfl ?_
      have b142_ : 0 ≤ F137_ 344 5 ∧ F137_ 344 5 ≤ 600 := gi_g g138_ rfl
      refine gVv (nY := 2) (F := 2) (L := 41) (As := [.int (Int32.ofInt 40)]) (b := 344) (rest := []) hm_184 rfl hm_51 rfl rfl (fl_ob sc_344) rfl rfl rfl rfl rfl (by omega) (by omega) (mc_51s hG F137_ X g138_ (K) (40) (0) hgK rk141_ hkt (⟨by omega, by omega⟩) (by omega) (by omega)) (fun _ _ h => False.elim h) ?_
      have b144_ : 0 ≤ F137_ 344 9 ∧ F137_ 344 9 ≤ 5 := gi_g g138_ rfl
      rintro A1_ ⟨F147_, hA_, g148_, s149_, c145_, c146_⟩
      subst hA_
      have g150_ : fs [(344, 344, 5, 5), (344, 344, 9, 10), (344, 344, 33, 33), (344, 344, 36, 36), (344, 344, 64, 64), (358, 358, 0, 100000), (360, 366, 0, 100000)] F F147_ := fs_tr g140_ s149_ rfl
      have rk151_ : rk K F147_ := rk_fs rk141_ s149_ (fs_rg rfl) rfl
      refine ga_aload_n (v := .ref 344) hm_184 rfl rfl rfl ?_
      refine fl_bipush hm_184 rfl rfl ?_
      have b152_ : 0 ≤ F147_ 344 5 ∧ F147_ 344 5 ≤ 600 := gi_g g148_ rfl
      refine gVv (nY := 2) (F := 2) (L := 44) (As := [.int (Int32.ofInt 15)]) (b := 344) (rest := []) hm_184 rfl hm_55 rfl rfl (fl_ob sc_344) rfl rfl rfl rfl rfl (by omega) (by omega) (mc_55s hG F147_ X g148_ (K) (15) ([58, 111, 98, 106, 101, 99, 116, 115]) hgK rk151_ hkt (⟨by omega, by omega⟩) (⟨by omega, by omega⟩) (by decide) (kw_15 rk151_)) (fun _ _ h => False.elim h) ?_
      have b154_ : 0 ≤ F147_ 344 9 ∧ F147_ 344 9 ≤ 5 := gi_g g148_ rfl
      rintro A1_ ⟨F157_, hA_, g158_, s159_, c155_, c156_⟩
      subst hA_
      have g160_ : fs [(344, 344, 5, 5), (344, 344, 9, 10), (344, 344, 33, 33), (344, 344, 36, 36), (344, 344, 64, 64), (358, 358, 0, 100000), (360, 366, 0, 100000)] F F157_ := fs_tr g150_ s159_ rfl
      have rk161_ : rk K F157_ := rk_fs rk151_ s159_ (fs_rg rfl) rfl
      have b162_ : 0 ≤ F157_ 344 9 ∧ F157_ 344 9 ≤ 5 := gi_g g158_ rfl
      by_cases h163_ : F157_ 344 9 = 0
      ·
        refine fl_iconst hm_184 rfl ?_
        refine ga_istore_n (lv2 := [(3, .int (Int32.ofInt 1)), (1, .long (Int64.ofInt z93_)), (0, .ref 344)]) hm_184 rfl (Nat.le_of_ble_eq_true rfl) rfl ?_
        have L165_ : ∀ (n164_ : Nat) (mo : Int) (l : List Int) (tl : List Int) (F1 : fl_N), (7 - F1 344 33 : Int).toNat = n164_ → (gi F1) → (fs [(344, 344, 5, 5), (344, 344, 9, 10), (344, 344, 33, 33), (364, 365, 0, 100000)] F157_ F1) → (F1 344 9 = 0) → (0 ≤ mo ∧ mo ≤ 1) → (0 ≤ F1 344 5 ∧ F1 344 5 ≤ K 1 6 - 1) → (trm F1 5 2 l tl ∧ l.length = tl.length) → fl_R xi_ms 184 fr lo 100 [(3, .int (Int32.ofInt mo)), (1, .long (Int64.ofInt z93_)), (0, .ref 344)] [] (fl_H sh_T G F1 ++ X) (pq_184 G F X K ts pl ps) := by
          intro n164_
          induction n164_ using Nat.strongRecOn with
          | ind n164_ ih166_ =>
          intro mo l tl F1 hn167_ hg_F1 hf_F1 hk hmo hp1 ht1
          have g168_ : fs [(344, 344, 5, 5), (344, 344, 9, 10), (344, 344, 33, 33), (344, 344, 36, 36), (344, 344, 64, 64), (358, 358, 0, 100000), (360, 366, 0, 100000)] F F1 := fs_tr g160_ hf_F1 rfl
          have rk169_ : rk K F1 := rk_fs rk161_ hf_F1 (fs_rg rfl) rfl
          have hP1 := (rkt_p hkt (p := F1 344 5) (by omega) (by omega) hgK).1
          have hb33 : 0 ≤ F1 344 33 ∧ F1 344 33 ≤ 6 := gi_g hg_F1 rfl
          refine ga_iload_n (z := mo) hm_184 rfl rfl ?_
          refine fl_if_eq (a := mo) hm_184 rfl ⟨by omega, by omega⟩ (fun h170_ => ?_) (fun h171_ => ?_)
          ·
            refine ga_aload_n (v := .ref 344) hm_184 rfl rfl rfl ?_
            refine fl_bipush hm_184 rfl rfl ?_
            have b172_ : 0 ≤ F1 344 5 ∧ F1 344 5 ≤ 600 := gi_g hg_F1 rfl
            refine gVv (nY := 2) (F := 2) (L := 41) (As := [.int (Int32.ofInt 41)]) (b := 344) (rest := []) hm_184 rfl hm_51 rfl rfl (fl_ob sc_344) rfl rfl rfl rfl rfl (by omega) (by omega) (mc_51s hG F1 X hg_F1 (K) (41) (1) hgK rk169_ hkt (⟨by omega, by omega⟩) (by omega) (by omega)) (fun _ _ h => False.elim h) ?_
            have b174_ : 0 ≤ F1 344 9 ∧ F1 344 9 ≤ 5 := gi_g hg_F1 rfl
            rintro A1_ ⟨F177_, hA_, g178_, s179_, c175_, c176_⟩
            subst hA_
            have g180_ : fs [(344, 344, 5, 5), (344, 344, 9, 10), (344, 344, 33, 33), (344, 344, 36, 36), (344, 344, 64, 64), (358, 358, 0, 100000), (360, 366, 0, 100000)] F F177_ := fs_tr g168_ s179_ rfl
            have rk181_ : rk K F177_ := rk_fs rk169_ s179_ (fs_rg rfl) rfl
            refine ga_aload_n (v := .ref 344) hm_184 rfl rfl rfl ?_
            refine gIi (nY := 1) (F := 0) (L := 0) (As := []) (b := 344) (rest := []) hm_184 rfl hm_59 rfl rfl (fl_ob sc_344) rfl rfl rfl rfl rfl (by omega) (by omega) ?_
            intro f182_ l183_ h184_ h185_
            show fl_R xi_ms 59 f182_ l183_ 0 [(0, .ref 344)] [] _ _
            refine ga_aload_n (v := .ref 344) hm_59 rfl rfl rfl ?_
            have b186_ : 0 ≤ F177_ 344 9 ∧ F177_ 344 9 ≤ 5 := gi_g g178_ rfl
            refine ga_geti (z := F177_ 344 9) hm_59 rfl sc_344 rfl (rfl) ?_
            refine fl_if_le (a := F177_ 344 9) hm_59 rfl ⟨by omega, by omega⟩ (fun h187_ => ?_) (fun h188_ => ?_)
            ·
              refine fl_iconst hm_59 rfl ?_
              refine gr_i hm_59 rfl rfl (ga_nb (by omega)) ?_
              clear h184_ h185_ f182_ l183_
              refine fl_if_ne hm_184 rfl ⟨by omega, by omega⟩ (fun h => absurd h (by omega)) (fun _ => ?_)
              refine ga_aload_n (v := .ref 344) hm_184 rfl rfl rfl ?_
              refine gVv (nY := 6) (F := 1) (L := 22) (As := []) (b := 344) (rest := []) hm_184 rfl hm_171 rfl rfl (fl_ob sc_344) rfl rfl rfl rfl rfl (by omega) (by omega) (mc_171 hG F177_ X g178_) (fun _ _ h => False.elim h) ?_
              rintro A1_ ⟨F190_, hA_, g191_, s192_⟩
              subst hA_
              have g193_ : fs [(344, 344, 5, 5), (344, 344, 9, 10), (344, 344, 33, 33), (344, 344, 36, 36), (344, 344, 64, 64), (358, 358, 0, 100000), (360, 366, 0, 100000)] F F190_ := fs_tr g180_ s192_ rfl
              have rk194_ : rk K F190_ := rk_fs rk181_ s192_ (fs_rg rfl) rfl
              refine ga_aload_n (v := .ref 344) hm_184 rfl rfl rfl ?_
              refine fl_bipush hm_184 rfl rfl ?_
              have e195_ : F190_ 344 5 = F177_ 344 5 := (s192_ 344 5 rfl).trans (rfl)
              have b196_ : 0 ≤ F177_ 344 5 ∧ F177_ 344 5 ≤ 600 := gi_g g178_ rfl
              refine gVv (nY := 2) (F := 2) (L := 41) (As := [.int (Int32.ofInt 40)]) (b := 344) (rest := []) hm_184 rfl hm_51 rfl rfl (fl_ob sc_344) rfl rfl rfl rfl rfl (by omega) (by omega) (mc_51s hG F190_ X g191_ (K) (40) (0) hgK rk194_ hkt (⟨by omega, by omega⟩) (by omega) (by omega)) (fun _ _ h => False.elim h) ?_
              have e198_ : F190_ 344 9 = F177_ 344 9 := (s192_ 344 9 rfl).trans (rfl)
              rintro A1_ ⟨F201_, hA_, g202_, s203_, c199_, c200_⟩
              subst hA_
              have g204_ : fs [(344, 344, 5, 5), (344, 344, 9, 10), (344, 344, 33, 33), (344, 344, 36, 36), (344, 344, 64, 64), (358, 358, 0, 100000), (360, 366, 0, 100000)] F F201_ := fs_tr g193_ s203_ rfl
              have rk205_ : rk K F201_ := rk_fs rk194_ s203_ (fs_rg rfl) rfl
              try simp only [e198_] at c199_
              refine ga_aload_n (v := .ref 344) hm_184 rfl rfl rfl ?_
              refine fl_bipush hm_184 rfl rfl ?_
              have b206_ : 0 ≤ F201_ 344 5 ∧ F201_ 344 5 ≤ 600 := gi_g g202_ rfl
              refine gVv (nY := 2) (F := 2) (L := 44) (As := [.int (Int32.ofInt 16)]) (b := 344) (rest := []) hm_184 rfl hm_55 rfl rfl (fl_ob sc_344) rfl rfl rfl rfl rfl (by omega) (by omega) (mc_55s hG F201_ X g202_ (K) (16) ([58, 105, 110, 105, 116]) hgK rk205_ hkt (⟨by omega, by omega⟩) (⟨by omega, by omega⟩) (by decide) (kw_16 rk205_)) (fun _ _ h => False.elim h) ?_
              have b208_ : 0 ≤ F201_ 344 9 ∧ F201_ 344 9 ≤ 5 := gi_g g202_ rfl
              rintro A1_ ⟨F211_, hA_, g212_, s213_, c209_, c210_⟩
              subst hA_
              have g214_ : fs [(344, 344, 5, 5), (344, 344, 9, 10), (344, 344, 33, 33), (344, 344, 36, 36), (344, 344, 64, 64), (358, 358, 0, 100000), (360, 366, 0, 100000)] F F211_ := fs_tr g204_ s213_ rfl
              have rk215_ : rk K F211_ := rk_fs rk205_ s213_ (fs_rg rfl) rfl
              refine ga_aload_n (v := .ref 344) hm_184 rfl rfl rfl ?_
              have b216_ : 0 ≤ F211_ 344 5 ∧ F211_ 344 5 ≤ 600 := gi_g g212_ rfl
              refine gVv (nY := 2) (F := 5) (L := 117) (As := []) (b := 344) (rest := []) hm_184 rfl hm_178 rfl rfl (fl_ob sc_344) rfl rfl rfl rfl rfl (by omega) (by omega) (mc_178 hG F211_ X g212_ (K) (l) (tl) (pl) (ps) hgK rk215_ hkt (⟨by omega, by omega⟩) ((trm_fs (trm_fs (trm_fs (trm_fs ht1.1 s179_ (by first | exact fs_rg rfl | exact fun r j hj => (fs_n (by omega) (fs_n (by omega) rfl)))) s192_ (by first | exact fs_rg rfl | exact fun r j hj => (fs_n (by omega) (fs_n (by omega) rfl)))) s203_ (by first | exact fs_rg rfl | exact fun r j hj => (fs_n (by omega) (fs_n (by omega) rfl)))) s213_ (by first | exact fs_rg rfl | exact fun r j hj => (fs_n (by omega) (fs_n (by omega) rfl))))) (ht1.2) ((rpn_fs (rpn_fs (rpn_fs (rpn_fs (rpn_fs (rpn_fs (rpn_fs (rpn_fs (rpn_fs (rpn_fs (rpn_fs (rpn_fs (rpn_fs (rpn_fs (rpn_fs (rpn_fs (rpn_fs (rpn_fs (rpn_fs hpl s8_ (fun _ => (by first | exact fs_c rfl | exact (fs_n (by omega) (fs_n (by omega) rfl)))) (by first | exact fs_c rfl | exact (fs_n (by omega) (fs_n (by omega) rfl)))) s18_ (fun _ => (by first | exact fs_c rfl | exact (fs_n (by omega) (fs_n (by omega) rfl)))) (by first | exact fs_c rfl | exact (fs_n (by omega) (fs_n (by omega) rfl)))) s28_ (fun _ => (by first | exact fs_c rfl | exact (fs_n (by omega) (fs_n (by omega) rfl)))) (by first | exact fs_c rfl | exact (fs_n (by omega) (fs_n (by omega) rfl)))) s38_ (fun _ => (by first | exact fs_c rfl | exact (fs_n (by omega) (fs_n (by omega) rfl)))) (by first | exact fs_c rfl | exact (fs_n (by omega) (fs_n (by omega) rfl)))) s50_ (fun _ => (by first | exact fs_c rfl | exact (fs_n (by omega) rfl))) (by first | exact fs_c rfl | exact (fs_n (by omega) rfl))) s59_ (fun _ => (by first | exact fs_c rfl | exact (fs_n (by omega) rfl))) (by first | exact fs_c rfl | exact (fs_n (by omega) rfl))) s69_ (fun _ => (by first | exact fs_c rfl | exact (fs_n (by omega) (fs_n (by omega) rfl)))) (by first | exact fs_c rfl | exact (fs_n (by omega) (fs_n (by omega) rfl)))) s79_ (fun _ => (by first | exact fs_c rfl | exact (fs_n (by omega) (fs_n (by omega) rfl)))) (by first | exact fs_c rfl | exact (fs_n (by omega) (fs_n (by omega) rfl)))) s89_ (fun _ => (by first | exact fs_c rfl | exact (fs_n (by omega) (fs_n (by omega) rfl)))) (by first | exact fs_c rfl | exact (fs_n (by omega) (fs_n (by omega) rfl)))) s101_ (fun _ => (by first | exact fs_c rfl | exact (fs_n (by omega) rfl))) (by first | exact fs_c rfl | exact (fs_n (by omega) rfl))) s129_ (fun _ => (by first | exact fs_c rfl | exact (fs_n (by omega) rfl))) (by first | exact fs_c rfl | exact (fs_n (by omega) rfl))) s139_ (fun _ => (by first | exact fs_c rfl | exact (fs_n (by omega) (fs_n (by omega) rfl)))) (by first | exact fs_c rfl | exact (fs_n (by omega) (fs_n (by omega) rfl)))) s149_ (fun _ => (by first | exact fs_c rfl | exact (fs_n (by omega) (fs_n (by omega) rfl)))) (by first | exact fs_c rfl | exact (fs_n (by omega) (fs_n (by omega) rfl)))) s159_ (fun _ => (by first | exact fs_c rfl | exact (fs_n (by omega) (fs_n (by omega) rfl)))) (by first | exact fs_c rfl | exact (fs_n (by omega) (fs_n (by omega) rfl)))) hf_F1 (fun _ => (by first | exact fs_c rfl | exact (fs_n (by omega) (fs_n (by omega) (fs_n (by omega) (fs_n (by omega) rfl)))))) (by first | exact fs_c rfl | exact (fs_n (by omega) (fs_n (by omega) (fs_n (by omega) (fs_n (by omega) rfl)))))) s179_ (fun _ => (by first | exact fs_c rfl | exact (fs_n (by omega) (fs_n (by omega) rfl)))) (by first | exact fs_c rfl | exact (fs_n (by omega) (fs_n (by omega) rfl)))) s192_ (fun _ => (by first | exact fs_c rfl | exact (fs_n (by omega) (fs_n (by omega) rfl)))) (by first | exact fs_c rfl | exact (fs_n (by omega) (fs_n (by omega) rfl)))) s203_ (fun _ => (by first | exact fs_c rfl | exact (fs_n (by omega) (fs_n (by omega) rfl)))) (by first | exact fs_c rfl | exact (fs_n (by omega) (fs_n (by omega) rfl)))) s213_ (fun _ => (by first | exact fs_c rfl | exact (fs_n (by omega) (fs_n (by omega) rfl)))) (by first | exact fs_c rfl | exact (fs_n (by omega) (fs_n (by omega) rfl))))) (⟨(rprd_fs (rprd_fs (rprd_fs (rprd_fs (rprd_fs (rprd_fs (rprd_fs (rprd_fs (rprd_fs (rprd_fs (rprd_fs (rprd_fs (rprd_fs (rprd_fs (rprd_fs (rprd_fs (rprd_fs (rprd_fs (rprd_fs hps.1 s8_ (by first | exact fs_rg rfl | exact fun r j hj => (fs_n (by omega) (fs_n (by omega) rfl)))) s18_ (by first | exact fs_rg rfl | exact fun r j hj => (fs_n (by omega) (fs_n (by omega) rfl)))) s28_ (by first | exact fs_rg rfl | exact fun r j hj => (fs_n (by omega) (fs_n (by omega) rfl)))) s38_ (by first | exact fs_rg rfl | exact fun r j hj => (fs_n (by omega) (fs_n (by omega) rfl)))) s50_ (by first | exact fs_rg rfl | exact fun r j hj => (fs_n (by omega) rfl))) s59_ (by first | exact fs_rg rfl | exact fun r j hj => (fs_n (by omega) rfl))) s69_ (by first | exact fs_rg rfl | exact fun r j hj => (fs_n (by omega) (fs_n (by omega) rfl)))) s79_ (by first | exact fs_rg rfl | exact fun r j hj => (fs_n (by omega) (fs_n (by omega) rfl)))) s89_ (by first | exact fs_rg rfl | exact fun r j hj => (fs_n (by omega) (fs_n (by omega) rfl)))) s101_ (by first | exact fs_rg rfl | exact fun r j hj => (fs_n (by omega) rfl))) s129_ (by first | exact fs_rg rfl | exact fun r j hj => (fs_n (by omega) rfl))) s139_ (by first | exact fs_rg rfl | exact fun r j hj => (fs_n (by omega) (fs_n (by omega) rfl)))) s149_ (by first | exact fs_rg rfl | exact fun r j hj => (fs_n (by omega) (fs_n (by omega) rfl)))) s159_ (by first | exact fs_rg rfl | exact fun r j hj => (fs_n (by omega) (fs_n (by omega) rfl)))) hf_F1 (by first | exact fs_rg rfl | exact fun r j hj => (fs_n (by omega) (fs_n (by omega) (fs_n (by omega) (fs_n (by omega) rfl)))))) s179_ (by first | exact fs_rg rfl | exact fun r j hj => (fs_n (by omega) (fs_n (by omega) rfl)))) s192_ (by first | exact fs_rg rfl | exact fun r j hj => (fs_n (by omega) (fs_n (by omega) rfl)))) s203_ (by first | exact fs_rg rfl | exact fun r j hj => (fs_n (by omega) (fs_n (by omega) rfl)))) s213_ (by first | exact fs_rg rfl | exact fun r j hj => (fs_n (by omega) (fs_n (by omega) rfl)))), hps.2⟩)) (fun _ _ h => False.elim h) ?_
              have b218_ : 0 ≤ F211_ 344 9 ∧ F211_ 344 9 ≤ 5 := gi_g g212_ rfl
              rintro A1_ ⟨F221_, hA_, g222_, s223_, c219_, c220_⟩
              subst hA_
              have g224_ : fs [(344, 344, 5, 5), (344, 344, 9, 10), (344, 344, 33, 33), (344, 344, 36, 36), (344, 344, 64, 64), (358, 358, 0, 100000), (360, 366, 0, 100000)] F F221_ := fs_tr g214_ s223_ rfl
              have rk225_ : rk K F221_ := rk_fs rk215_ s223_ (fs_rg rfl) rfl
              refine ga_aload_n (v := .ref 344) hm_184 rfl rfl rfl ?_
              refine fl_bipush hm_184 rfl rfl ?_
              have b226_ : 0 ≤ F221_ 344 5 ∧ F221_ 344 5 ≤ 600 := gi_g g222_ rfl
              refine gVv (nY := 2) (F := 2) (L := 41) (As := [.int (Int32.ofInt 41)]) (b := 344) (rest := []) hm_184 rfl hm_51 rfl rfl (fl_ob sc_344) rfl rfl rfl rfl rfl (by omega) (by omega) (mc_51s hG F221_ X g222_ (K) (41) (1) hgK rk225_ hkt (⟨by omega, by omega⟩) (by omega) (by omega)) (fun _ _ h => False.elim h) ?_
              have b228_ : 0 ≤ F221_ 344 9 ∧ F221_ 344 9 ≤ 5 := gi_g g222_ rfl
              rintro A1_ ⟨F231_, hA_, g232_, s233_, c229_, c230_⟩
              subst hA_
              have g234_ : fs [(344, 344, 5, 5), (344, 344, 9, 10), (344, 344, 33, 33), (344, 344, 36, 36), (344, 344, 64, 64), (358, 358, 0, 100000), (360, 366, 0, 100000)] F F231_ := fs_tr g224_ s233_ rfl
              have rk235_ : rk K F231_ := rk_fs rk225_ s233_ (fs_rg rfl) rfl
              refine ga_aload_n (v := .ref 344) hm_184 rfl rfl rfl ?_
              refine fl_bipush hm_184 rfl rfl ?_
              have b236_ : 0 ≤ F231_ 344 5 ∧ F231_ 344 5 ≤ 600 := gi_g g232_ rfl
              refine gVv (nY := 2) (F := 2) (L := 41) (As := [.int (Int32.ofInt 40)]) (b := 344) (rest := []) hm_184 rfl hm_51 rfl rfl (fl_ob sc_344) rfl rfl rfl rfl rfl (by omega) (by omega) (mc_51s hG F231_ X g232_ (K) (40) (0) hgK rk235_ hkt (⟨by omega, by omega⟩) (by omega) (by omega)) (fun _ _ h => False.elim h) ?_
              have b238_ : 0 ≤ F231_ 344 9 ∧ F231_ 344 9 ≤ 5 := gi_g g232_ rfl
              rintro A1_ ⟨F241_, hA_, g242_, s243_, c239_, c240_⟩
              subst hA_
              have g244_ : fs [(344, 344, 5, 5), (344, 344, 9, 10), (344, 344, 33, 33), (344, 344, 36, 36), (344, 344, 64, 64), (358, 358, 0, 100000), (360, 366, 0, 100000)] F F241_ := fs_tr g234_ s243_ rfl
              have rk245_ : rk K F241_ := rk_fs rk235_ s243_ (fs_rg rfl) rfl
              refine ga_aload_n (v := .ref 344) hm_184 rfl rfl rfl ?_
              refine fl_bipush hm_184 rfl rfl ?_
              have b246_ : 0 ≤ F241_ 344 5 ∧ F241_ 344 5 ≤ 600 := gi_g g242_ rfl
              refine gVv (nY := 2) (F := 2) (L := 44) (As := [.int (Int32.ofInt 17)]) (b := 344) (rest := []) hm_184 rfl hm_55 rfl rfl (fl_ob sc_344) rfl rfl rfl rfl rfl (by omega) (by omega) (mc_55s hG F241_ X g242_ (K) (17) ([58, 103, 111, 97, 108]) hgK rk245_ hkt (⟨by omega, by omega⟩) (⟨by omega, by omega⟩) (by decide) (kw_17 rk245_)) (fun _ _ h => False.elim h) ?_
              have b248_ : 0 ≤ F241_ 344 9 ∧ F241_ 344 9 ≤ 5 := gi_g g242_ rfl
              rintro A1_ ⟨F251_, hA_, g252_, s253_, c249_, c250_⟩
              subst hA_
              have g254_ : fs [(344, 344, 5, 5), (344, 344, 9, 10), (344, 344, 33, 33), (344, 344, 36, 36), (344, 344, 64, 64), (358, 358, 0, 100000), (360, 366, 0, 100000)] F F251_ := fs_tr g244_ s253_ rfl
              have rk255_ : rk K F251_ := rk_fs rk245_ s253_ (fs_rg rfl) rfl
              refine ga_aload_n (v := .ref 344) hm_184 rfl rfl rfl ?_
              refine ga_getr (b := 358) hm_184 rfl sc_344 rfl ?_
              refine fl_iconst hm_184 rfl ?_
              refine fl_iconst hm_184 rfl ?_
              refine fl_iast (z := 5) (v := 0) hm_184 rfl sc_358 (by omega) (by omega) (by omega) ?_
              refine ga_aload_n (v := .ref 344) hm_184 rfl rfl rfl ?_
              refine fl_iconst hm_184 rfl ?_
              refine fl_bipush hm_184 rfl rfl ?_
              obtain ⟨F256_, q257_⟩ : ∃ Fq_, Fq_ = (fl_u F251_ 358 (5 : Int).toNat 0) := ⟨_, rfl⟩
              rw [← q257_]
              have g258_ : gi F256_ := by rw [q257_]; exact gi_u (g252_) rfl (by omega) (by omega)
              have g259_ : fs [(344, 344, 5, 5), (344, 344, 9, 10), (344, 344, 33, 33), (344, 344, 36, 36), (344, 344, 64, 64), (358, 358, 0, 100000), (360, 366, 0, 100000)] F F256_ := by rw [q257_]; exact fs_u (g254_) rfl
              have rk260_ : rk K F256_ := by rw [q257_]; exact rk_u (rk255_) (by first | decide | exact nc_ rfl | omega) (by first | decide | exact nc_ rfl | omega)
              have e261_ : F256_ 344 5 = F251_ 344 5 := by rw [q257_]; exact fl_u_ne (by first | exact nc_ rfl | decide | omega)
              have b262_ : 0 ≤ F251_ 344 5 ∧ F251_ 344 5 ≤ 600 := gi_g g252_ rfl
              refine gVv (nY := 4) (F := 6) (L := 142) (As := [.int (Int32.ofInt 5), .int (Int32.ofInt 40)]) (b := 344) (rest := []) hm_184 rfl hm_175 rfl rfl (fl_ob sc_344) rfl rfl rfl rfl rfl (by omega) (by omega) (mc_175s hG F256_ X g258_ (K) (5) (40) (2) (l) (tl) (pl) (ps) hgK rk260_ hkt (⟨by omega, by omega⟩) ((by rw [q257_]; exact (trm_u (trm_fs (trm_fs (trm_fs (trm_fs (trm_fs (trm_fs (trm_fs (trm_fs ht1.1 s179_ (by first | exact fs_rg rfl | exact fun r j hj => (fs_n (by omega) (fs_n (by omega) rfl)))) s192_ (by first | exact fs_rg rfl | exact fun r j hj => (fs_n (by omega) (fs_n (by omega) rfl)))) s203_ (by first | exact fs_rg rfl | exact fun r j hj => (fs_n (by omega) (fs_n (by omega) rfl)))) s213_ (by first | exact fs_rg rfl | exact fun r j hj => (fs_n (by omega) (fs_n (by omega) rfl)))) s223_ (by first | exact fs_rg rfl | exact fun r j hj => (fs_n (by omega) (fs_n (by omega) (fs_n (by omega) (fs_n (by omega) rfl)))))) s233_ (by first | exact fs_rg rfl | exact fun r j hj => (fs_n (by omega) (fs_n (by omega) rfl)))) s243_ (by first | exact fs_rg rfl | exact fun r j hj => (fs_n (by omega) (fs_n (by omega) rfl)))) s253_ (by first | exact fs_rg rfl | exact fun r j hj => (fs_n (by omega) (fs_n (by omega) rfl)))) (by first | decide | exact nc_ rfl | omega)))) (ht1.2) (⟨by omega, by omega⟩) ((by rw [q257_]; exact (rpn_u (rpn_fs (rpn_fs (rpn_fs (rpn_fs (rpn_fs (rpn_fs (rpn_fs (rpn_fs (rpn_fs (rpn_fs (rpn_fs (rpn_fs (rpn_fs (rpn_fs (rpn_fs (rpn_fs (rpn_fs (rpn_fs (rpn_fs (rpn_fs (rpn_fs (rpn_fs (rpn_fs hpl s8_ (fun _ => (by first | exact fs_c rfl | exact (fs_n (by omega) (fs_n (by omega) rfl)))) (by first | exact fs_c rfl | exact (fs_n (by omega) (fs_n (by omega) rfl)))) s18_ (fun _ => (by first | exact fs_c rfl | exact (fs_n (by omega) (fs_n (by omega) rfl)))) (by first | exact fs_c rfl | exact (fs_n (by omega) (fs_n (by omega) rfl)))) s28_ (fun _ => (by first | exact fs_c rfl | exact (fs_n (by omega) (fs_n (by omega) rfl)))) (by first | exact fs_c rfl | exact (fs_n (by omega) (fs_n (by omega) rfl)))) s38_ (fun _ => (by first | exact fs_c rfl | exact (fs_n (by omega) (fs_n (by omega) rfl)))) (by first | exact fs_c rfl | exact (fs_n (by omega) (fs_n (by omega) rfl)))) s50_ (fun _ => (by first | exact fs_c rfl | exact (fs_n (by omega) rfl))) (by first | exact fs_c rfl | exact (fs_n (by omega) rfl))) s59_ (fun _ => (by first | exact fs_c rfl | exact (fs_n (by omega) rfl))) (by first | exact fs_c rfl | exact (fs_n (by omega) rfl))) s69_ (fun _ => (by first | exact fs_c rfl | exact (fs_n (by omega) (fs_n (by omega) rfl)))) (by first | exact fs_c rfl | exact (fs_n (by omega) (fs_n (by omega) rfl)))) s79_ (fun _ => (by first | exact fs_c rfl | exact (fs_n (by omega) (fs_n (by omega) rfl)))) (by first | exact fs_c rfl | exact (fs_n (by omega) (fs_n (by omega) rfl)))) s89_ (fun _ => (by first | exact fs_c rfl | exact (fs_n (by omega) (fs_n (by omega) rfl)))) (by first | exact fs_c rfl | exact (fs_n (by omega) (fs_n (by omega) rfl)))) s101_ (fun _ => (by first | exact fs_c rfl | exact (fs_n (by omega) rfl))) (by first | exact fs_c rfl | exact (fs_n (by omega) rfl))) s129_ (fun _ => (by first | exact fs_c rfl | exact (fs_n (by omega) rfl))) (by first | exact fs_c rfl | exact (fs_n (by omega) rfl))) s139_ (fun _ => (by first | exact fs_c rfl | exact (fs_n (by omega) (fs_n (by omega) rfl)))) (by first | exact fs_c rfl | exact (fs_n (by omega) (fs_n (by omega) rfl)))) s149_ (fun _ => (by first | exact fs_c rfl | exact (fs_n (by omega) (fs_n (by omega) rfl)))) (by first | exact fs_c rfl | exact (fs_n (by omega) (fs_n (by omega) rfl)))) s159_ (fun _ => (by first | exact fs_c rfl | exact (fs_n (by omega) (fs_n (by omega) rfl)))) (by first | exact fs_c rfl | exact (fs_n (by omega) (fs_n (by omega) rfl)))) hf_F1 (fun _ => (by first | exact fs_c rfl | exact (fs_n (by omega) (fs_n (by omega) (fs_n (by omega) (fs_n (by omega) rfl)))))) (by first | exact fs_c rfl | exact (fs_n (by omega) (fs_n (by omega) (fs_n (by omega) (fs_n (by omega) rfl)))))) s179_ (fun _ => (by first | exact fs_c rfl | exact (fs_n (by omega) (fs_n (by omega) rfl)))) (by first | exact fs_c rfl | exact (fs_n (by omega) (fs_n (by omega) rfl)))) s192_ (fun _ => (by first | exact fs_c rfl | exact (fs_n (by omega) (fs_n (by omega) rfl)))) (by first | exact fs_c rfl | exact (fs_n (by omega) (fs_n (by omega) rfl)))) s203_ (fun _ => (by first | exact fs_c rfl | exact (fs_n (by omega) (fs_n (by omega) rfl)))) (by first | exact fs_c rfl | exact (fs_n (by omega) (fs_n (by omega) rfl)))) s213_ (fun _ => (by first | exact fs_c rfl | exact (fs_n (by omega) (fs_n (by omega) rfl)))) (by first | exact fs_c rfl | exact (fs_n (by omega) (fs_n (by omega) rfl)))) s223_ (fun _ => (by first | exact fs_c rfl | exact (fs_n (by omega) (fs_n (by omega) (fs_n (by omega) (fs_n (by omega) rfl)))))) (by first | exact fs_c rfl | exact (fs_n (by omega) (fs_n (by omega) (fs_n (by omega) (fs_n (by omega) rfl)))))) s233_ (fun _ => (by first | exact fs_c rfl | exact (fs_n (by omega) (fs_n (by omega) rfl)))) (by first | exact fs_c rfl | exact (fs_n (by omega) (fs_n (by omega) rfl)))) s243_ (fun _ => (by first | exact fs_c rfl | exact (fs_n (by omega) (fs_n (by omega) rfl)))) (by first | exact fs_c rfl | exact (fs_n (by omega) (fs_n (by omega) rfl)))) s253_ (fun _ => (by first | exact fs_c rfl | exact (fs_n (by omega) (fs_n (by omega) rfl)))) (by first | exact fs_c rfl | exact (fs_n (by omega) (fs_n (by omega) rfl)))) (by first | decide | exact nc_ rfl | omega) (by first | decide | exact nc_ rfl | omega)))) (⟨(by rw [q257_]; exact (rprd_u (rprd_fs (rprd_fs (rprd_fs (rprd_fs (rprd_fs (rprd_fs (rprd_fs (rprd_fs (rprd_fs (rprd_fs (rprd_fs (rprd_fs (rprd_fs (rprd_fs (rprd_fs (rprd_fs (rprd_fs (rprd_fs (rprd_fs (rprd_fs (rprd_fs (rprd_fs (rprd_fs hps.1 s8_ (by first | exact fs_rg rfl | exact fun r j hj => (fs_n (by omega) (fs_n (by omega) rfl)))) s18_ (by first | exact fs_rg rfl | exact fun r j hj => (fs_n (by omega) (fs_n (by omega) rfl)))) s28_ (by first | exact fs_rg rfl | exact fun r j hj => (fs_n (by omega) (fs_n (by omega) rfl)))) s38_ (by first | exact fs_rg rfl | exact fun r j hj => (fs_n (by omega) (fs_n (by omega) rfl)))) s50_ (by first | exact fs_rg rfl | exact fun r j hj => (fs_n (by omega) rfl))) s59_ (by first | exact fs_rg rfl | exact fun r j hj => (fs_n (by omega) rfl))) s69_ (by first | exact fs_rg rfl | exact fun r j hj => (fs_n (by omega) (fs_n (by omega) rfl)))) s79_ (by first | exact fs_rg rfl | exact fun r j hj => (fs_n (by omega) (fs_n (by omega) rfl)))) s89_ (by first | exact fs_rg rfl | exact fun r j hj => (fs_n (by omega) (fs_n (by omega) rfl)))) s101_ (by first | exact fs_rg rfl | exact fun r j hj => (fs_n (by omega) rfl))) s129_ (by first | exact fs_rg rfl | exact fun r j hj => (fs_n (by omega) rfl))) s139_ (by first | exact fs_rg rfl | exact fun r j hj => (fs_n (by omega) (fs_n (by omega) rfl)))) s149_ (by first | exact fs_rg rfl | exact fun r j hj => (fs_n (by omega) (fs_n (by omega) rfl)))) s159_ (by first | exact fs_rg rfl | exact fun r j hj => (fs_n (by omega) (fs_n (by omega) rfl)))) hf_F1 (by first | exact fs_rg rfl | exact fun r j hj => (fs_n (by omega) (fs_n (by omega) (fs_n (by omega) (fs_n (by omega) rfl)))))) s179_ (by first | exact fs_rg rfl | exact fun r j hj => (fs_n (by omega) (fs_n (by omega) rfl)))) s192_ (by first | exact fs_rg rfl | exact fun r j hj => (fs_n (by omega) (fs_n (by omega) rfl)))) s203_ (by first | exact fs_rg rfl | exact fun r j hj => (fs_n (by omega) (fs_n (by omega) rfl)))) s213_ (by first | exact fs_rg rfl | exact fun r j hj => (fs_n (by omega) (fs_n (by omega) rfl)))) s223_ (by first | exact fs_rg rfl | exact fun r j hj => (fs_n (by omega) (fs_n (by omega) (fs_n (by omega) (fs_n (by omega) rfl)))))) s233_ (by first | exact fs_rg rfl | exact fun r j hj => (fs_n (by omega) (fs_n (by omega) rfl)))) s243_ (by first | exact fs_rg rfl | exact fun r j hj => (fs_n (by omega) (fs_n (by omega) rfl)))) s253_ (by first | exact fs_rg rfl | exact fun r j hj => (fs_n (by omega) (fs_n (by omega) rfl)))) (by first | decide | exact nc_ rfl | omega))), hps.2⟩) (⟨by omega, by omega⟩) (Or.inr (by omega)) (by rw [q257_]; exact fl_u_eq)) (fun _ _ h => False.elim h) ?_
              have e264_ : F256_ 344 9 = F251_ 344 9 := by rw [q257_]; exact fl_u_ne (by first | exact nc_ rfl | decide | omega)
              have b265_ : 0 ≤ F251_ 344 9 ∧ F251_ 344 9 ≤ 5 := gi_g g252_ rfl
              rintro A1_ ⟨F268_, hA_, g269_, s270_, c266_, c267_⟩
              subst hA_
              have g271_ : fs [(344, 344, 5, 5), (344, 344, 9, 10), (344, 344, 33, 33), (344, 344, 36, 36), (344, 344, 64, 64), (358, 358, 0, 100000), (360, 366, 0, 100000)] F F268_ := fs_tr g259_ s270_ rfl
              have rk272_ : rk K F268_ := rk_fs rk260_ s270_ (fs_rg rfl) rfl
              try simp only [e264_] at c266_
              refine ga_aload_n (v := .ref 344) hm_184 rfl rfl rfl ?_
              refine fl_bipush hm_184 rfl rfl ?_
              have b273_ : 0 ≤ F268_ 344 5 ∧ F268_ 344 5 ≤ 600 := gi_g g269_ rfl
              refine gVv (nY := 2) (F := 2) (L := 41) (As := [.int (Int32.ofInt 41)]) (b := 344) (rest := []) hm_184 rfl hm_51 rfl rfl (fl_ob sc_344) rfl rfl rfl rfl rfl (by omega) (by omega) (mc_51s hG F268_ X g269_ (K) (41) (1) hgK rk272_ hkt (⟨by omega, by omega⟩) (by omega) (by omega)) (fun _ _ h => False.elim h) ?_
              have b275_ : 0 ≤ F268_ 344 9 ∧ F268_ 344 9 ≤ 5 := gi_g g269_ rfl
              rintro A1_ ⟨F278_, hA_, g279_, s280_, c276_, c277_⟩
              subst hA_
              have g281_ : fs [(344, 344, 5, 5), (344, 344, 9, 10), (344, 344, 33, 33), (344, 344, 36, 36), (344, 344, 64, 64), (358, 358, 0, 100000), (360, 366, 0, 100000)] F F278_ := fs_tr g271_ s280_ rfl
              have rk282_ : rk K F278_ := rk_fs rk272_ s280_ (fs_rg rfl) rfl
              refine ga_aload_n (v := .ref 344) hm_184 rfl rfl rfl ?_
              refine fl_bipush hm_184 rfl rfl ?_
              have b283_ : 0 ≤ F278_ 344 5 ∧ F278_ 344 5 ≤ 600 := gi_g g279_ rfl
              refine gVv (nY := 2) (F := 2) (L := 41) (As := [.int (Int32.ofInt 41)]) (b := 344) (rest := []) hm_184 rfl hm_51 rfl rfl (fl_ob sc_344) rfl rfl rfl rfl rfl (by omega) (by omega) (mc_51s hG F278_ X g279_ (K) (41) (1) hgK rk282_ hkt (⟨by omega, by omega⟩) (by omega) (by omega)) (fun _ _ h => False.elim h) ?_
              have b285_ : 0 ≤ F278_ 344 9 ∧ F278_ 344 9 ≤ 5 := gi_g g279_ rfl
              rintro A1_ ⟨F288_, hA_, g289_, s290_, c286_, c287_⟩
              subst hA_
              have g291_ : fs [(344, 344, 5, 5), (344, 344, 9, 10), (344, 344, 33, 33), (344, 344, 36, 36), (344, 344, 64, 64), (358, 358, 0, 100000), (360, 366, 0, 100000)] F F288_ := fs_tr g281_ s290_ rfl
              have rk292_ : rk K F288_ := rk_fs rk282_ s290_ (fs_rg rfl) rfl
              refine ga_aload_n (v := .ref 344) hm_184 rfl rfl rfl ?_
              refine gIi (nY := 1) (F := 0) (L := 0) (As := []) (b := 344) (rest := []) hm_184 rfl hm_59 rfl rfl (fl_ob sc_344) rfl rfl rfl rfl rfl (by omega) (by omega) ?_
              intro f293_ l294_ h295_ h296_
              show fl_R xi_ms 59 f293_ l294_ 0 [(0, .ref 344)] [] _ _
              refine ga_aload_n (v := .ref 344) hm_59 rfl rfl rfl ?_
              have b297_ : 0 ≤ F288_ 344 9 ∧ F288_ 344 9 ≤ 5 := gi_g g289_ rfl
              refine ga_geti (z := F288_ 344 9) hm_59 rfl sc_344 rfl (rfl) ?_
              refine fl_if_le (a := F288_ 344 9) hm_59 rfl ⟨by omega, by omega⟩ (fun h298_ => ?_) (fun h299_ => ?_)
              ·
                refine fl_iconst hm_59 rfl ?_
                refine gr_i hm_59 rfl rfl (ga_nb (by omega)) ?_
                clear h295_ h296_ f293_ l294_
                refine fl_if_ne hm_184 rfl ⟨by omega, by omega⟩ (fun h => absurd h (by omega)) (fun _ => ?_)
                refine ga_aload_n (v := .ref 344) hm_184 rfl rfl rfl ?_
                have b300_ : 0 ≤ F288_ 344 5 ∧ F288_ 344 5 ≤ 600 := gi_g g289_ rfl
                refine ga_geti (z := F288_ 344 5) hm_184 rfl sc_344 rfl (rfl) ?_
                refine ga_aload_n (v := .ref 344) hm_184 rfl rfl rfl ?_
                have e301_ : F288_ 344 4 = K 1 6 - 1 := rk292_.2.1
                refine ga_geti (z := K 1 6 - 1) hm_184 rfl sc_344 rfl (e301_) ?_
                refine fl_icmp_ge (a := F288_ 344 5) (b := K 1 6 - 1) hm_184 rfl ⟨by omega, by omega⟩ ⟨by omega, by omega⟩ (fun h302_ => ?_) (fun h303_ => ?_)
                ·
                  refine gr_v hm_184 rfl rfl ?_
                  exact ⟨F288_, rfl, g289_, g291_, (⟨by omega, by omega⟩)⟩
                refine ga_aload_n (v := .ref 344) hm_184 rfl rfl rfl ?_
                refine fl_iconst hm_184 rfl ?_
                refine gVv (nY := 2) (F := 0) (L := 0) (As := [.int (Int32.ofInt 1)]) (b := 344) (rest := []) hm_184 rfl hm_54 rfl rfl (fl_ob sc_344) rfl rfl rfl rfl rfl (by omega) (by omega) (mc_54 hG F288_ X g289_ (K) (1) hgK rk292_ hkt (⟨by omega, by omega⟩) (⟨by omega, by omega⟩)) (fun _ _ h => False.elim h) ?_
                have b305_ : 0 ≤ F288_ 344 10 ∧ F288_ 344 10 ≤ 600 := gi_g g289_ rfl
                rintro A1_ ⟨F309_, hA_, g310_, s311_, c306_, c307_, c308_⟩
                subst hA_
                have g312_ : fs [(344, 344, 5, 5), (344, 344, 9, 10), (344, 344, 33, 33), (344, 344, 36, 36), (344, 344, 64, 64), (358, 358, 0, 100000), (360, 366, 0, 100000)] F F309_ := fs_tr g291_ s311_ rfl
                have rk313_ : rk K F309_ := rk_fs rk292_ s311_ (fs_rg rfl) rfl
                have c307_s := c307_.1 (by omega)
                clear c307_
                refine gr_v hm_184 rfl rfl ?_
                have e314_ : F309_ 344 5 = F288_ 344 5 := (s311_ 344 5 rfl).trans (rfl)
                exact ⟨F309_, rfl, g310_, g312_, (⟨by omega, by omega⟩)⟩
              refine fl_iconst hm_59 rfl ?_
              refine fl_goto hm_59 rfl ?_
              refine gr_i hm_59 rfl rfl (ga_nb (by omega)) ?_
              clear h295_ h296_ f293_ l294_
              refine fl_if_ne hm_184 rfl ⟨by omega, by omega⟩ (fun _ => ?_) (fun h => absurd (by omega) h)
              refine gr_v hm_184 rfl rfl ?_
              have b315_ : 0 ≤ F288_ 344 5 ∧ F288_ 344 5 ≤ 600 := gi_g g289_ rfl
              exact ⟨F288_, rfl, g289_, g291_, (⟨by omega, by omega⟩)⟩
            refine fl_iconst hm_59 rfl ?_
            refine fl_goto hm_59 rfl ?_
            refine gr_i hm_59 rfl rfl (ga_nb (by omega)) ?_
            clear h184_ h185_ f182_ l183_
            refine fl_if_ne hm_184 rfl ⟨by omega, by omega⟩ (fun _ => ?_) (fun h => absurd (by omega) h)
            refine ga_aload_n (v := .ref 344) hm_184 rfl rfl rfl ?_
            refine fl_bipush hm_184 rfl rfl ?_
            have b316_ : 0 ≤ F177_ 344 5 ∧ F177_ 344 5 ≤ 600 := gi_g g178_ rfl
            refine gVv (nY := 2) (F := 2) (L := 41) (As := [.int (Int32.ofInt 40)]) (b := 344) (rest := []) hm_184 rfl hm_51 rfl rfl (fl_ob sc_344) rfl rfl rfl rfl rfl (by omega) (by omega) (mc_51s hG F177_ X g178_ (K) (40) (0) hgK rk181_ hkt (⟨by omega, by omega⟩) (by omega) (by omega)) (fun _ _ h => False.elim h) ?_
            rintro A1_ ⟨F320_, hA_, g321_, s322_, c318_, c319_⟩
            subst hA_
            have g323_ : fs [(344, 344, 5, 5), (344, 344, 9, 10), (344, 344, 33, 33), (344, 344, 36, 36), (344, 344, 64, 64), (358, 358, 0, 100000), (360, 366, 0, 100000)] F F320_ := fs_tr g180_ s322_ rfl
            have rk324_ : rk K F320_ := rk_fs rk181_ s322_ (fs_rg rfl) rfl
            refine ga_aload_n (v := .ref 344) hm_184 rfl rfl rfl ?_
            refine fl_bipush hm_184 rfl rfl ?_
            have b325_ : 0 ≤ F320_ 344 5 ∧ F320_ 344 5 ≤ 600 := gi_g g321_ rfl
            refine gVv (nY := 2) (F := 2) (L := 44) (As := [.int (Int32.ofInt 16)]) (b := 344) (rest := []) hm_184 rfl hm_55 rfl rfl (fl_ob sc_344) rfl rfl rfl rfl rfl (by omega) (by omega) (mc_55s hG F320_ X g321_ (K) (16) ([58, 105, 110, 105, 116]) hgK rk324_ hkt (⟨by omega, by omega⟩) (⟨by omega, by omega⟩) (by decide) (kw_16 rk324_)) (fun _ _ h => False.elim h) ?_
            have b327_ : 0 ≤ F320_ 344 9 ∧ F320_ 344 9 ≤ 5 := gi_g g321_ rfl
            rintro A1_ ⟨F330_, hA_, g331_, s332_, c328_, c329_⟩
            subst hA_
            have g333_ : fs [(344, 344, 5, 5), (344, 344, 9, 10), (344, 344, 33, 33), (344, 344, 36, 36), (344, 344, 64, 64), (358, 358, 0, 100000), (360, 366, 0, 100000)] F F330_ := fs_tr g323_ s332_ rfl
            have rk334_ : rk K F330_ := rk_fs rk324_ s332_ (fs_rg rfl) rfl
            refine ga_aload_n (v := .ref 344) hm_184 rfl rfl rfl ?_
            have b335_ : 0 ≤ F330_ 344 5 ∧ F330_ 344 5 ≤ 600 := gi_g g331_ rfl
            refine gVv (nY := 2) (F := 5) (L := 117) (As := []) (b := 344) (rest := []) hm_184 rfl hm_178 rfl rfl (fl_ob sc_344) rfl rfl rfl rfl rfl (by omega) (by omega) (mc_178 hG F330_ X g331_ (K) (l) (tl) (pl) (ps) hgK rk334_ hkt (⟨by omega, by omega⟩) ((trm_fs (trm_fs (trm_fs ht1.1 s179_ (by first | exact fs_rg rfl | exact fun r j hj => (fs_n (by omega) (fs_n (by omega) rfl)))) s322_ (by first | exact fs_rg rfl | exact fun r j hj => (fs_n (by omega) (fs_n (by omega) rfl)))) s332_ (by first | exact fs_rg rfl | exact fun r j hj => (fs_n (by omega) (fs_n (by omega) rfl))))) (ht1.2) ((rpn_fs (rpn_fs (rpn_fs (rpn_fs (rpn_fs (rpn_fs (rpn_fs (rpn_fs (rpn_fs (rpn_fs (rpn_fs (rpn_fs (rpn_fs (rpn_fs (rpn_fs (rpn_fs (rpn_fs (rpn_fs hpl s8_ (fun _ => (by first | exact fs_c rfl | exact (fs_n (by omega) (fs_n (by omega) rfl)))) (by first | exact fs_c rfl | exact (fs_n (by omega) (fs_n (by omega) rfl)))) s18_ (fun _ => (by first | exact fs_c rfl | exact (fs_n (by omega) (fs_n (by omega) rfl)))) (by first | exact fs_c rfl | exact (fs_n (by omega) (fs_n (by omega) rfl)))) s28_ (fun _ => (by first | exact fs_c rfl | exact (fs_n (by omega) (fs_n (by omega) rfl)))) (by first | exact fs_c rfl | exact (fs_n (by omega) (fs_n (by omega) rfl)))) s38_ (fun _ => (by first | exact fs_c rfl | exact (fs_n (by omega) (fs_n (by omega) rfl)))) (by first | exact fs_c rfl | exact (fs_n (by omega) (fs_n (by omega) rfl)))) s50_ (fun _ => (by first | exact fs_c rfl | exact (fs_n (by omega) rfl))) (by first | exact fs_c rfl | exact (fs_n (by omega) rfl))) s59_ (fun _ => (by first | exact fs_c rfl | exact (fs_n (by omega) rfl))) (by first | exact fs_c rfl | exact (fs_n (by omega) rfl))) s69_ (fun _ => (by first | exact fs_c rfl | exact (fs_n (by omega) (fs_n (by omega) rfl)))) (by first | exact fs_c rfl | exact (fs_n (by omega) (fs_n (by omega) rfl)))) s79_ (fun _ => (by first | exact fs_c rfl | exact (fs_n (by omega) (fs_n (by omega) rfl)))) (by first | exact fs_c rfl | exact (fs_n (by omega) (fs_n (by omega) rfl)))) s89_ (fun _ => (by first | exact fs_c rfl | exact (fs_n (by omega) (fs_n (by omega) rfl)))) (by first | exact fs_c rfl | exact (fs_n (by omega) (fs_n (by omega) rfl)))) s101_ (fun _ => (by first | exact fs_c rfl | exact (fs_n (by omega) rfl))) (by first | exact fs_c rfl | exact (fs_n (by omega) rfl))) s129_ (fun _ => (by first | exact fs_c rfl | exact (fs_n (by omega) rfl))) (by first | exact fs_c rfl | exact (fs_n (by omega) rfl))) s139_ (fun _ => (by first | exact fs_c rfl | exact (fs_n (by omega) (fs_n (by omega) rfl)))) (by first | exact fs_c rfl | exact (fs_n (by omega) (fs_n (by omega) rfl)))) s149_ (fun _ => (by first | exact fs_c rfl | exact (fs_n (by omega) (fs_n (by omega) rfl)))) (by first | exact fs_c rfl | exact (fs_n (by omega) (fs_n (by omega) rfl)))) s159_ (fun _ => (by first | exact fs_c rfl | exact (fs_n (by omega) (fs_n (by omega) rfl)))) (by first | exact fs_c rfl | exact (fs_n (by omega) (fs_n (by omega) rfl)))) hf_F1 (fun _ => (by first | exact fs_c rfl | exact (fs_n (by omega) (fs_n (by omega) (fs_n (by omega) (fs_n (by omega) rfl)))))) (by first | exact fs_c rfl | exact (fs_n (by omega) (fs_n (by omega) (fs_n (by omega) (fs_n (by omega) rfl)))))) s179_ (fun _ => (by first | exact fs_c rfl | exact (fs_n (by omega) (fs_n (by omega) rfl)))) (by first | exact fs_c rfl | exact (fs_n (by omega) (fs_n (by omega) rfl)))) s322_ (fun _ => (by first | exact fs_c rfl | exact (fs_n (by omega) (fs_n (by omega) rfl)))) (by first | exact fs_c rfl | exact (fs_n (by omega) (fs_n (by omega) rfl)))) s332_ (fun _ => (by first | exact fs_c rfl | exact (fs_n (by omega) (fs_n (by omega) rfl)))) (by first | exact fs_c rfl | exact (fs_n (by omega) (fs_n (by omega) rfl))))) (⟨(rprd_fs (rprd_fs (rprd_fs (rprd_fs (rprd_fs (rprd_fs (rprd_fs (rprd_fs (rprd_fs (rprd_fs (rprd_fs (rprd_fs (rprd_fs (rprd_fs (rprd_fs (rprd_fs (rprd_fs (rprd_fs hps.1 s8_ (by first | exact fs_rg rfl | exact fun r j hj => (fs_n (by omega) (fs_n (by omega) rfl)))) s18_ (by first | exact fs_rg rfl | exact fun r j hj => (fs_n (by omega) (fs_n (by omega) rfl)))) s28_ (by first | exact fs_rg rfl | exact fun r j hj => (fs_n (by omega) (fs_n (by omega) rfl)))) s38_ (by first | exact fs_rg rfl | exact fun r j hj => (fs_n (by omega) (fs_n (by omega) rfl)))) s50_ (by first | exact fs_rg rfl | exact fun r j hj => (fs_n (by omega) rfl))) s59_ (by first | exact fs_rg rfl | exact fun r j hj => (fs_n (by omega) rfl))) s69_ (by first | exact fs_rg rfl | exact fun r j hj => (fs_n (by omega) (fs_n (by omega) rfl)))) s79_ (by first | exact fs_rg rfl | exact fun r j hj => (fs_n (by omega) (fs_n (by omega) rfl)))) s89_ (by first | exact fs_rg rfl | exact fun r j hj => (fs_n (by omega) (fs_n (by omega) rfl)))) s101_ (by first | exact fs_rg rfl | exact fun r j hj => (fs_n (by omega) rfl))) s129_ (by first | exact fs_rg rfl | exact fun r j hj => (fs_n (by omega) rfl))) s139_ (by first | exact fs_rg rfl | exact fun r j hj => (fs_n (by omega) (fs_n (by omega) rfl)))) s149_ (by first | exact fs_rg rfl | exact fun r j hj => (fs_n (by omega) (fs_n (by omega) rfl)))) s159_ (by first | exact fs_rg rfl | exact fun r j hj => (fs_n (by omega) (fs_n (by omega) rfl)))) hf_F1 (by first | exact fs_rg rfl | exact fun r j hj => (fs_n (by omega) (fs_n (by omega) (fs_n (by omega) (fs_n (by omega) rfl)))))) s179_ (by first | exact fs_rg rfl | exact fun r j hj => (fs_n (by omega) (fs_n (by omega) rfl)))) s322_ (by first | exact fs_rg rfl | exact fun r j hj => (fs_n (by omega) (fs_n (by omega) rfl)))) s332_ (by first | exact fs_rg rfl | exact fun r j hj => (fs_n (by omega) (fs_n (by omega) rfl)))), hps.2⟩)) (fun _ _ h => False.elim h) ?_
            have b337_ : 0 ≤ F330_ 344 9 ∧ F330_ 344 9 ≤ 5 := gi_g g331_ rfl
            rintro A1_ ⟨F340_, hA_, g341_, s342_, c338_, c339_⟩
            subst hA_
            have g343_ : fs [(344, 344, 5, 5), (344, 344, 9, 10), (344, 344, 33, 33), (344, 344, 36, 36), (344, 344, 64, 64), (358, 358, 0, 100000), (360, 366, 0, 100000)] F F340_ := fs_tr g333_ s342_ rfl
            have rk344_ : rk K F340_ := rk_fs rk334_ s342_ (fs_rg rfl) rfl
            refine ga_aload_n (v := .ref 344) hm_184 rfl rfl rfl ?_
            refine fl_bipush hm_184 rfl rfl ?_
            have b345_ : 0 ≤ F340_ 344 5 ∧ F340_ 344 5 ≤ 600 := gi_g g341_ rfl
            refine gVv (nY := 2) (F := 2) (L := 41) (As := [.int (Int32.ofInt 41)]) (b := 344) (rest := []) hm_184 rfl hm_51 rfl rfl (fl_ob sc_344) rfl rfl rfl rfl rfl (by omega) (by omega) (mc_51s hG F340_ X g341_ (K) (41) (1) hgK rk344_ hkt (⟨by omega, by omega⟩) (by omega) (by omega)) (fun _ _ h => False.elim h) ?_
            have b347_ : 0 ≤ F340_ 344 9 ∧ F340_ 344 9 ≤ 5 := gi_g g341_ rfl
            rintro A1_ ⟨F350_, hA_, g351_, s352_, c348_, c349_⟩
            subst hA_
            have g353_ : fs [(344, 344, 5, 5), (344, 344, 9, 10), (344, 344, 33, 33), (344, 344, 36, 36), (344, 344, 64, 64), (358, 358, 0, 100000), (360, 366, 0, 100000)] F F350_ := fs_tr g343_ s352_ rfl
            have rk354_ : rk K F350_ := rk_fs rk344_ s352_ (fs_rg rfl) rfl
            refine ga_aload_n (v := .ref 344) hm_184 rfl rfl rfl ?_
            refine fl_bipush hm_184 rfl rfl ?_
            have b355_ : 0 ≤ F350_ 344 5 ∧ F350_ 344 5 ≤ 600 := gi_g g351_ rfl
            refine gVv (nY := 2) (F := 2) (L := 41) (As := [.int (Int32.ofInt 40)]) (b := 344) (rest := []) hm_184 rfl hm_51 rfl rfl (fl_ob sc_344) rfl rfl rfl rfl rfl (by omega) (by omega) (mc_51s hG F350_ X g351_ (K) (40) (0) hgK rk354_ hkt (⟨by omega, by omega⟩) (by omega) (by omega)) (fun _ _ h => False.elim h) ?_
            have b357_ : 0 ≤ F350_ 344 9 ∧ F350_ 344 9 ≤ 5 := gi_g g351_ rfl
            rintro A1_ ⟨F360_, hA_, g361_, s362_, c358_, c359_⟩
            subst hA_
            have g363_ : fs [(344, 344, 5, 5), (344, 344, 9, 10), (344, 344, 33, 33), (344, 344, 36, 36), (344, 344, 64, 64), (358, 358, 0, 100000), (360, 366, 0, 100000)] F F360_ := fs_tr g353_ s362_ rfl
            have rk364_ : rk K F360_ := rk_fs rk354_ s362_ (fs_rg rfl) rfl
            refine ga_aload_n (v := .ref 344) hm_184 rfl rfl rfl ?_
            refine fl_bipush hm_184 rfl rfl ?_
            have b365_ : 0 ≤ F360_ 344 5 ∧ F360_ 344 5 ≤ 600 := gi_g g361_ rfl
            refine gVv (nY := 2) (F := 2) (L := 44) (As := [.int (Int32.ofInt 17)]) (b := 344) (rest := []) hm_184 rfl hm_55 rfl rfl (fl_ob sc_344) rfl rfl rfl rfl rfl (by omega) (by omega) (mc_55s hG F360_ X g361_ (K) (17) ([58, 103, 111, 97, 108]) hgK rk364_ hkt (⟨by omega, by omega⟩) (⟨by omega, by omega⟩) (by decide) (kw_17 rk364_)) (fun _ _ h => False.elim h) ?_
            have b367_ : 0 ≤ F360_ 344 9 ∧ F360_ 344 9 ≤ 5 := gi_g g361_ rfl
            rintro A1_ ⟨F370_, hA_, g371_, s372_, c368_, c369_⟩
            subst hA_
            have g373_ : fs [(344, 344, 5, 5), (344, 344, 9, 10), (344, 344, 33, 33), (344, 344, 36, 36), (344, 344, 64, 64), (358, 358, 0, 100000), (360, 366, 0, 100000)] F F370_ := fs_tr g363_ s372_ rfl
            have rk374_ : rk K F370_ := rk_fs rk364_ s372_ (fs_rg rfl) rfl
            refine ga_aload_n (v := .ref 344) hm_184 rfl rfl rfl ?_
            refine ga_getr (b := 358) hm_184 rfl sc_344 rfl ?_
            refine fl_iconst hm_184 rfl ?_
            refine fl_iconst hm_184 rfl ?_
            refine fl_iast (z := 5) (v := 0) hm_184 rfl sc_358 (by omega) (by omega) (by omega) ?_
            refine ga_aload_n (v := .ref 344) hm_184 rfl rfl rfl ?_
            refine fl_iconst hm_184 rfl ?_
            refine fl_bipush hm_184 rfl rfl ?_
            obtain ⟨F375_, q376_⟩ : ∃ Fq_, Fq_ = (fl_u F370_ 358 (5 : Int).toNat 0) := ⟨_, rfl⟩
            rw [← q376_]
            have g377_ : gi F375_ := by rw [q376_]; exact gi_u (g371_) rfl (by omega) (by omega)
            have g378_ : fs [(344, 344, 5, 5), (344, 344, 9, 10), (344, 344, 33, 33), (344, 344, 36, 36), (344, 344, 64, 64), (358, 358, 0, 100000), (360, 366, 0, 100000)] F F375_ := by rw [q376_]; exact fs_u (g373_) rfl
            have rk379_ : rk K F375_ := by rw [q376_]; exact rk_u (rk374_) (by first | decide | exact nc_ rfl | omega) (by first | decide | exact nc_ rfl | omega)
            have e380_ : F375_ 344 5 = F370_ 344 5 := by rw [q376_]; exact fl_u_ne (by first | exact nc_ rfl | decide | omega)
            have b381_ : 0 ≤ F370_ 344 5 ∧ F370_ 344 5 ≤ 600 := gi_g g371_ rfl
            refine gVv (nY := 4) (F := 6) (L := 142) (As := [.int (Int32.ofInt 5), .int (Int32.ofInt 40)]) (b := 344) (rest := []) hm_184 rfl hm_175 rfl rfl (fl_ob sc_344) rfl rfl rfl rfl rfl (by omega) (by omega) (mc_175s hG F375_ X g377_ (K) (5) (40) (2) (l) (tl) (pl) (ps) hgK rk379_ hkt (⟨by omega, by omega⟩) ((by rw [q376_]; exact (trm_u (trm_fs (trm_fs (trm_fs (trm_fs (trm_fs (trm_fs (trm_fs ht1.1 s179_ (by first | exact fs_rg rfl | exact fun r j hj => (fs_n (by omega) (fs_n (by omega) rfl)))) s322_ (by first | exact fs_rg rfl | exact fun r j hj => (fs_n (by omega) (fs_n (by omega) rfl)))) s332_ (by first | exact fs_rg rfl | exact fun r j hj => (fs_n (by omega) (fs_n (by omega) rfl)))) s342_ (by first | exact fs_rg rfl | exact fun r j hj => (fs_n (by omega) (fs_n (by omega) (fs_n (by omega) (fs_n (by omega) rfl)))))) s352_ (by first | exact fs_rg rfl | exact fun r j hj => (fs_n (by omega) (fs_n (by omega) rfl)))) s362_ (by first | exact fs_rg rfl | exact fun r j hj => (fs_n (by omega) (fs_n (by omega) rfl)))) s372_ (by first | exact fs_rg rfl | exact fun r j hj => (fs_n (by omega) (fs_n (by omega) rfl)))) (by first | decide | exact nc_ rfl | omega)))) (ht1.2) (⟨by omega, by omega⟩) ((by rw [q376_]; exact (rpn_u (rpn_fs (rpn_fs (rpn_fs (rpn_fs (rpn_fs (rpn_fs (rpn_fs (rpn_fs (rpn_fs (rpn_fs (rpn_fs (rpn_fs (rpn_fs (rpn_fs (rpn_fs (rpn_fs (rpn_fs (rpn_fs (rpn_fs (rpn_fs (rpn_fs (rpn_fs hpl s8_ (fun _ => (by first | exact fs_c rfl | exact (fs_n (by omega) (fs_n (by omega) rfl)))) (by first | exact fs_c rfl | exact (fs_n (by omega) (fs_n (by omega) rfl)))) s18_ (fun _ => (by first | exact fs_c rfl | exact (fs_n (by omega) (fs_n (by omega) rfl)))) (by first | exact fs_c rfl | exact (fs_n (by omega) (fs_n (by omega) rfl)))) s28_ (fun _ => (by first | exact fs_c rfl | exact (fs_n (by omega) (fs_n (by omega) rfl)))) (by first | exact fs_c rfl | exact (fs_n (by omega) (fs_n (by omega) rfl)))) s38_ (fun _ => (by first | exact fs_c rfl | exact (fs_n (by omega) (fs_n (by omega) rfl)))) (by first | exact fs_c rfl | exact (fs_n (by omega) (fs_n (by omega) rfl)))) s50_ (fun _ => (by first | exact fs_c rfl | exact (fs_n (by omega) rfl))) (by first | exact fs_c rfl | exact (fs_n (by omega) rfl))) s59_ (fun _ => (by first | exact fs_c rfl | exact (fs_n (by omega) rfl))) (by first | exact fs_c rfl | exact (fs_n (by omega) rfl))) s69_ (fun _ => (by first | exact fs_c rfl | exact (fs_n (by omega) (fs_n (by omega) rfl)))) (by first | exact fs_c rfl | exact (fs_n (by omega) (fs_n (by omega) rfl)))) s79_ (fun _ => (by first | exact fs_c rfl | exact (fs_n (by omega) (fs_n (by omega) rfl)))) (by first | exact fs_c rfl | exact (fs_n (by omega) (fs_n (by omega) rfl)))) s89_ (fun _ => (by first | exact fs_c rfl | exact (fs_n (by omega) (fs_n (by omega) rfl)))) (by first | exact fs_c rfl | exact (fs_n (by omega) (fs_n (by omega) rfl)))) s101_ (fun _ => (by first | exact fs_c rfl | exact (fs_n (by omega) rfl))) (by first | exact fs_c rfl | exact (fs_n (by omega) rfl))) s129_ (fun _ => (by first | exact fs_c rfl | exact (fs_n (by omega) rfl))) (by first | exact fs_c rfl | exact (fs_n (by omega) rfl))) s139_ (fun _ => (by first | exact fs_c rfl | exact (fs_n (by omega) (fs_n (by omega) rfl)))) (by first | exact fs_c rfl | exact (fs_n (by omega) (fs_n (by omega) rfl)))) s149_ (fun _ => (by first | exact fs_c rfl | exact (fs_n (by omega) (fs_n (by omega) rfl)))) (by first | exact fs_c rfl | exact (fs_n (by omega) (fs_n (by omega) rfl)))) s159_ (fun _ => (by first | exact fs_c rfl | exact (fs_n (by omega) (fs_n (by omega) rfl)))) (by first | exact fs_c rfl | exact (fs_n (by omega) (fs_n (by omega) rfl)))) hf_F1 (fun _ => (by first | exact fs_c rfl | exact (fs_n (by omega) (fs_n (by omega) (fs_n (by omega) (fs_n (by omega) rfl)))))) (by first | exact fs_c rfl | exact (fs_n (by omega) (fs_n (by omega) (fs_n (by omega) (fs_n (by omega) rfl)))))) s179_ (fun _ => (by first | exact fs_c rfl | exact (fs_n (by omega) (fs_n (by omega) rfl)))) (by first | exact fs_c rfl | exact (fs_n (by omega) (fs_n (by omega) rfl)))) s322_ (fun _ => (by first | exact fs_c rfl | exact (fs_n (by omega) (fs_n (by omega) rfl)))) (by first | exact fs_c rfl | exact (fs_n (by omega) (fs_n (by omega) rfl)))) s332_ (fun _ => (by first | exact fs_c rfl | exact (fs_n (by omega) (fs_n (by omega) rfl)))) (by first | exact fs_c rfl | exact (fs_n (by omega) (fs_n (by omega) rfl)))) s342_ (fun _ => (by first | exact fs_c rfl | exact (fs_n (by omega) (fs_n (by omega) (fs_n (by omega) (fs_n (by omega) rfl)))))) (by first | exact fs_c rfl | exact (fs_n (by omega) (fs_n (by omega) (fs_n (by omega) (fs_n (by omega) rfl)))))) s352_ (fun _ => (by first | exact fs_c rfl | exact (fs_n (by omega) (fs_n (by omega) rfl)))) (by first | exact fs_c rfl | exact (fs_n (by omega) (fs_n (by omega) rfl)))) s362_ (fun _ => (by first | exact fs_c rfl | exact (fs_n (by omega) (fs_n (by omega) rfl)))) (by first | exact fs_c rfl | exact (fs_n (by omega) (fs_n (by omega) rfl)))) s372_ (fun _ => (by first | exact fs_c rfl | exact (fs_n (by omega) (fs_n (by omega) rfl)))) (by first | exact fs_c rfl | exact (fs_n (by omega) (fs_n (by omega) rfl)))) (by first | decide | exact nc_ rfl | omega) (by first | decide | exact nc_ rfl | omega)))) (⟨(by rw [q376_]; exact (rprd_u (rprd_fs (rprd_fs (rprd_fs (rprd_fs (rprd_fs (rprd_fs (rprd_fs (rprd_fs (rprd_fs (rprd_fs (rprd_fs (rprd_fs (rprd_fs (rprd_fs (rprd_fs (rprd_fs (rprd_fs (rprd_fs (rprd_fs (rprd_fs (rprd_fs (rprd_fs hps.1 s8_ (by first | exact fs_rg rfl | exact fun r j hj => (fs_n (by omega) (fs_n (by omega) rfl)))) s18_ (by first | exact fs_rg rfl | exact fun r j hj => (fs_n (by omega) (fs_n (by omega) rfl)))) s28_ (by first | exact fs_rg rfl | exact fun r j hj => (fs_n (by omega) (fs_n (by omega) rfl)))) s38_ (by first | exact fs_rg rfl | exact fun r j hj => (fs_n (by omega) (fs_n (by omega) rfl)))) s50_ (by first | exact fs_rg rfl | exact fun r j hj => (fs_n (by omega) rfl))) s59_ (by first | exact fs_rg rfl | exact fun r j hj => (fs_n (by omega) rfl))) s69_ (by first | exact fs_rg rfl | exact fun r j hj => (fs_n (by omega) (fs_n (by omega) rfl)))) s79_ (by first | exact fs_rg rfl | exact fun r j hj => (fs_n (by omega) (fs_n (by omega) rfl)))) s89_ (by first | exact fs_rg rfl | exact fun r j hj => (fs_n (by omega) (fs_n (by omega) rfl)))) s101_ (by first | exact fs_rg rfl | exact fun r j hj => (fs_n (by omega) rfl))) s129_ (by first | exact fs_rg rfl | exact fun r j hj => (fs_n (by omega) rfl))) s139_ (by first | exact fs_rg rfl | exact fun r j hj => (fs_n (by omega) (fs_n (by omega) rfl)))) s149_ (by first | exact fs_rg rfl | exact fun r j hj => (fs_n (by omega) (fs_n (by omega) rfl)))) s159_ (by first | exact fs_rg rfl | exact fun r j hj => (fs_n (by omega) (fs_n (by omega) rfl)))) hf_F1 (by first | exact fs_rg rfl | exact fun r j hj => (fs_n (by omega) (fs_n (by omega) (fs_n (by omega) (fs_n (by omega) rfl)))))) s179_ (by first | exact fs_rg rfl | exact fun r j hj => (fs_n (by omega) (fs_n (by omega) rfl)))) s322_ (by first | exact fs_rg rfl | exact fun r j hj => (fs_n (by omega) (fs_n (by omega) rfl)))) s332_ (by first | exact fs_rg rfl | exact fun r j hj => (fs_n (by omega) (fs_n (by omega) rfl)))) s342_ (by first | exact fs_rg rfl | exact fun r j hj => (fs_n (by omega) (fs_n (by omega) (fs_n (by omega) (fs_n (by omega) rfl)))))) s352_ (by first | exact fs_rg rfl | exact fun r j hj => (fs_n (by omega) (fs_n (by omega) rfl)))) s362_ (by first | exact fs_rg rfl | exact fun r j hj => (fs_n (by omega) (fs_n (by omega) rfl)))) s372_ (by first | exact fs_rg rfl | exact fun r j hj => (fs_n (by omega) (fs_n (by omega) rfl)))) (by first | decide | exact nc_ rfl | omega))), hps.2⟩) (⟨by omega, by omega⟩) (Or.inr (by omega)) (by rw [q376_]; exact fl_u_eq)) (fun _ _ h => False.elim h) ?_
            have e383_ : F375_ 344 9 = F370_ 344 9 := by rw [q376_]; exact fl_u_ne (by first | exact nc_ rfl | decide | omega)
            have b384_ : 0 ≤ F370_ 344 9 ∧ F370_ 344 9 ≤ 5 := gi_g g371_ rfl
            rintro A1_ ⟨F387_, hA_, g388_, s389_, c385_, c386_⟩
            subst hA_
            have g390_ : fs [(344, 344, 5, 5), (344, 344, 9, 10), (344, 344, 33, 33), (344, 344, 36, 36), (344, 344, 64, 64), (358, 358, 0, 100000), (360, 366, 0, 100000)] F F387_ := fs_tr g378_ s389_ rfl
            have rk391_ : rk K F387_ := rk_fs rk379_ s389_ (fs_rg rfl) rfl
            try simp only [e383_] at c385_
            refine ga_aload_n (v := .ref 344) hm_184 rfl rfl rfl ?_
            refine fl_bipush hm_184 rfl rfl ?_
            have b392_ : 0 ≤ F387_ 344 5 ∧ F387_ 344 5 ≤ 600 := gi_g g388_ rfl
            refine gVv (nY := 2) (F := 2) (L := 41) (As := [.int (Int32.ofInt 41)]) (b := 344) (rest := []) hm_184 rfl hm_51 rfl rfl (fl_ob sc_344) rfl rfl rfl rfl rfl (by omega) (by omega) (mc_51s hG F387_ X g388_ (K) (41) (1) hgK rk391_ hkt (⟨by omega, by omega⟩) (by omega) (by omega)) (fun _ _ h => False.elim h) ?_
            have b394_ : 0 ≤ F387_ 344 9 ∧ F387_ 344 9 ≤ 5 := gi_g g388_ rfl
            rintro A1_ ⟨F397_, hA_, g398_, s399_, c395_, c396_⟩
            subst hA_
            have g400_ : fs [(344, 344, 5, 5), (344, 344, 9, 10), (344, 344, 33, 33), (344, 344, 36, 36), (344, 344, 64, 64), (358, 358, 0, 100000), (360, 366, 0, 100000)] F F397_ := fs_tr g390_ s399_ rfl
            have rk401_ : rk K F397_ := rk_fs rk391_ s399_ (fs_rg rfl) rfl
            refine ga_aload_n (v := .ref 344) hm_184 rfl rfl rfl ?_
            refine fl_bipush hm_184 rfl rfl ?_
            have b402_ : 0 ≤ F397_ 344 5 ∧ F397_ 344 5 ≤ 600 := gi_g g398_ rfl
            refine gVv (nY := 2) (F := 2) (L := 41) (As := [.int (Int32.ofInt 41)]) (b := 344) (rest := []) hm_184 rfl hm_51 rfl rfl (fl_ob sc_344) rfl rfl rfl rfl rfl (by omega) (by omega) (mc_51s hG F397_ X g398_ (K) (41) (1) hgK rk401_ hkt (⟨by omega, by omega⟩) (by omega) (by omega)) (fun _ _ h => False.elim h) ?_
            have b404_ : 0 ≤ F397_ 344 9 ∧ F397_ 344 9 ≤ 5 := gi_g g398_ rfl
            rintro A1_ ⟨F407_, hA_, g408_, s409_, c405_, c406_⟩
            subst hA_
            have g410_ : fs [(344, 344, 5, 5), (344, 344, 9, 10), (344, 344, 33, 33), (344, 344, 36, 36), (344, 344, 64, 64), (358, 358, 0, 100000), (360, 366, 0, 100000)] F F407_ := fs_tr g400_ s409_ rfl
            have rk411_ : rk K F407_ := rk_fs rk401_ s409_ (fs_rg rfl) rfl
            refine ga_aload_n (v := .ref 344) hm_184 rfl rfl rfl ?_
            refine gIi (nY := 1) (F := 0) (L := 0) (As := []) (b := 344) (rest := []) hm_184 rfl hm_59 rfl rfl (fl_ob sc_344) rfl rfl rfl rfl rfl (by omega) (by omega) ?_
            intro f412_ l413_ h414_ h415_
            show fl_R xi_ms 59 f412_ l413_ 0 [(0, .ref 344)] [] _ _
            refine ga_aload_n (v := .ref 344) hm_59 rfl rfl rfl ?_
            have b416_ : 0 ≤ F407_ 344 9 ∧ F407_ 344 9 ≤ 5 := gi_g g408_ rfl
            refine ga_geti (z := F407_ 344 9) hm_59 rfl sc_344 rfl (rfl) ?_
            refine fl_if_le (a := F407_ 344 9) hm_59 rfl ⟨by omega, by omega⟩ (fun h417_ => ?_) (fun h418_ => ?_)
            ·
              refine fl_iconst hm_59 rfl ?_
              refine gr_i hm_59 rfl rfl (ga_nb (by omega)) ?_
              clear h414_ h415_ f412_ l413_
              refine fl_if_ne hm_184 rfl ⟨by omega, by omega⟩ (fun h => absurd h (by omega)) (fun _ => ?_)
              refine ga_aload_n (v := .ref 344) hm_184 rfl rfl rfl ?_
              have b419_ : 0 ≤ F407_ 344 5 ∧ F407_ 344 5 ≤ 600 := gi_g g408_ rfl
              refine ga_geti (z := F407_ 344 5) hm_184 rfl sc_344 rfl (rfl) ?_
              refine ga_aload_n (v := .ref 344) hm_184 rfl rfl rfl ?_
              have e420_ : F407_ 344 4 = K 1 6 - 1 := rk411_.2.1
              refine ga_geti (z := K 1 6 - 1) hm_184 rfl sc_344 rfl (e420_) ?_
              refine fl_icmp_ge (a := F407_ 344 5) (b := K 1 6 - 1) hm_184 rfl ⟨by omega, by omega⟩ ⟨by omega, by omega⟩ (fun h421_ => ?_) (fun h422_ => ?_)
              ·
                refine gr_v hm_184 rfl rfl ?_
                exact ⟨F407_, rfl, g408_, g410_, (⟨by omega, by omega⟩)⟩
              refine ga_aload_n (v := .ref 344) hm_184 rfl rfl rfl ?_
              refine fl_iconst hm_184 rfl ?_
              refine gVv (nY := 2) (F := 0) (L := 0) (As := [.int (Int32.ofInt 1)]) (b := 344) (rest := []) hm_184 rfl hm_54 rfl rfl (fl_ob sc_344) rfl rfl rfl rfl rfl (by omega) (by omega) (mc_54 hG F407_ X g408_ (K) (1) hgK rk411_ hkt (⟨by omega, by omega⟩) (⟨by omega, by omega⟩)) (fun _ _ h => False.elim h) ?_
              have b424_ : 0 ≤ F407_ 344 10 ∧ F407_ 344 10 ≤ 600 := gi_g g408_ rfl
              rintro A1_ ⟨F428_, hA_, g429_, s430_, c425_, c426_, c427_⟩
              subst hA_
              have g431_ : fs [(344, 344, 5, 5), (344, 344, 9, 10), (344, 344, 33, 33), (344, 344, 36, 36), (344, 344, 64, 64), (358, 358, 0, 100000), (360, 366, 0, 100000)] F F428_ := fs_tr g410_ s430_ rfl
              have rk432_ : rk K F428_ := rk_fs rk411_ s430_ (fs_rg rfl) rfl
              have c426_s := c426_.1 (by omega)
              clear c426_
              refine gr_v hm_184 rfl rfl ?_
              have e433_ : F428_ 344 5 = F407_ 344 5 := (s430_ 344 5 rfl).trans (rfl)
              exact ⟨F428_, rfl, g429_, g431_, (⟨by omega, by omega⟩)⟩
            refine fl_iconst hm_59 rfl ?_
            refine fl_goto hm_59 rfl ?_
            refine gr_i hm_59 rfl rfl (ga_nb (by omega)) ?_
            clear h414_ h415_ f412_ l413_
            refine fl_if_ne hm_184 rfl ⟨by omega, by omega⟩ (fun _ => ?_) (fun h => absurd (by omega) h)
            refine gr_v hm_184 rfl rfl ?_
            have b434_ : 0 ≤ F407_ 344 5 ∧ F407_ 344 5 ≤ 600 := gi_g g408_ rfl
            exact ⟨F407_, rfl, g408_, g410_, (⟨by omega, by omega⟩)⟩
          refine ga_aload_n (v := .ref 344) hm_184 rfl rfl rfl ?_
          refine gIi (nY := 1) (F := 0) (L := 0) (As := []) (b := 344) (rest := []) hm_184 rfl hm_59 rfl rfl (fl_ob sc_344) rfl rfl rfl rfl rfl (by omega) (by omega) ?_
          intro f435_ l436_ h437_ h438_
          show fl_R xi_ms 59 f435_ l436_ 0 [(0, .ref 344)] [] _ _
          refine ga_aload_n (v := .ref 344) hm_59 rfl rfl rfl ?_
          have b439_ : 0 ≤ F1 344 9 ∧ F1 344 9 ≤ 5 := gi_g hg_F1 rfl
          refine ga_geti (z := F1 344 9) hm_59 rfl sc_344 rfl (rfl) ?_
          refine fl_if_le (a := F1 344 9) hm_59 rfl ⟨by omega, by omega⟩ (fun h440_ => ?_) (fun h441_ => ?_)
          ·
            refine fl_iconst hm_59 rfl ?_
            refine gr_i hm_59 rfl rfl (ga_nb (by omega)) ?_
            clear h437_ h438_ f435_ l436_
            refine fl_if_ne hm_184 rfl ⟨by omega, by omega⟩ (fun h => absurd h (by omega)) (fun _ => ?_)
            refine ga_aload_n (v := .ref 344) hm_184 rfl rfl rfl ?_
            have b442_ : 0 ≤ F1 344 5 ∧ F1 344 5 ≤ 600 := gi_g hg_F1 rfl
            refine gVv (nY := 3) (F := 4) (L := 89) (As := []) (b := 344) (rest := []) hm_184 rfl hm_180 rfl rfl (fl_ob sc_344) rfl rfl rfl rfl rfl (by omega) (by omega) (mc_180 hG F1 X hg_F1 (K) (ts) (l) (tl) hgK rk169_ hkt (⟨by omega, by omega⟩) ((rpn_fs (rpn_fs (rpn_fs (rpn_fs (rpn_fs (rpn_fs (rpn_fs (rpn_fs (rpn_fs (rpn_fs (rpn_fs (rpn_fs (rpn_fs (rpn_fs (rpn_fs hts s8_ (fun _ => (by first | exact fs_c rfl | exact (fs_n (by omega) (fs_n (by omega) rfl)))) (by first | exact fs_c rfl | exact (fs_n (by omega) (fs_n (by omega) rfl)))) s18_ (fun _ => (by first | exact fs_c rfl | exact (fs_n (by omega) (fs_n (by omega) rfl)))) (by first | exact fs_c rfl | exact (fs_n (by omega) (fs_n (by omega) rfl)))) s28_ (fun _ => (by first | exact fs_c rfl | exact (fs_n (by omega) (fs_n (by omega) rfl)))) (by first | exact fs_c rfl | exact (fs_n (by omega) (fs_n (by omega) rfl)))) s38_ (fun _ => (by first | exact fs_c rfl | exact (fs_n (by omega) (fs_n (by omega) rfl)))) (by first | exact fs_c rfl | exact (fs_n (by omega) (fs_n (by omega) rfl)))) s50_ (fun _ => (by first | exact fs_c rfl | exact (fs_n (by omega) rfl))) (by first | exact fs_c rfl | exact (fs_n (by omega) rfl))) s59_ (fun _ => (by first | exact fs_c rfl | exact (fs_n (by omega) rfl))) (by first | exact fs_c rfl | exact (fs_n (by omega) rfl))) s69_ (fun _ => (by first | exact fs_c rfl | exact (fs_n (by omega) (fs_n (by omega) rfl)))) (by first | exact fs_c rfl | exact (fs_n (by omega) (fs_n (by omega) rfl)))) s79_ (fun _ => (by first | exact fs_c rfl | exact (fs_n (by omega) (fs_n (by omega) rfl)))) (by first | exact fs_c rfl | exact (fs_n (by omega) (fs_n (by omega) rfl)))) s89_ (fun _ => (by first | exact fs_c rfl | exact (fs_n (by omega) (fs_n (by omega) rfl)))) (by first | exact fs_c rfl | exact (fs_n (by omega) (fs_n (by omega) rfl)))) s101_ (fun _ => (by first | exact fs_c rfl | exact (fs_n (by omega) rfl))) (by first | exact fs_c rfl | exact (fs_n (by omega) rfl))) s129_ (fun _ => (by first | exact fs_c rfl | exact (fs_n (by omega) rfl))) (by first | exact fs_c rfl | exact (fs_n (by omega) rfl))) s139_ (fun _ => (by first | exact fs_c rfl | exact (fs_n (by omega) (fs_n (by omega) rfl)))) (by first | exact fs_c rfl | exact (fs_n (by omega) (fs_n (by omega) rfl)))) s149_ (fun _ => (by first | exact fs_c rfl | exact (fs_n (by omega) (fs_n (by omega) rfl)))) (by first | exact fs_c rfl | exact (fs_n (by omega) (fs_n (by omega) rfl)))) s159_ (fun _ => (by first | exact fs_c rfl | exact (fs_n (by omega) (fs_n (by omega) rfl)))) (by first | exact fs_c rfl | exact (fs_n (by omega) (fs_n (by omega) rfl)))) hf_F1 (fun _ => (by first | exact fs_c rfl | exact (fs_n (by omega) (fs_n (by omega) (fs_n (by omega) (fs_n (by omega) rfl)))))) (by first | exact fs_c rfl | exact (fs_n (by omega) (fs_n (by omega) (fs_n (by omega) (fs_n (by omega) rfl))))))) (ht1.1) (ht1.2)) (fun _ _ h => False.elim h) ?_
            have b444_ : 0 ≤ F1 344 33 ∧ F1 344 33 ≤ 6 := gi_g hg_F1 rfl
            rintro A1_ ⟨F449_, hA_, g450_, s451_, c445_, c446_, c447_, c448_⟩
            subst hA_
            have g452_ : fs [(344, 344, 5, 5), (344, 344, 9, 10), (344, 344, 33, 33), (344, 344, 36, 36), (344, 344, 64, 64), (358, 358, 0, 100000), (360, 366, 0, 100000)] F F449_ := fs_tr g168_ s451_ rfl
            have rk453_ : rk K F449_ := rk_fs rk169_ s451_ (fs_rg rfl) rfl
            obtain ⟨l2_, tl2_, ht2_⟩ := c447_
            have b454_ : 0 ≤ F449_ 344 9 ∧ F449_ 344 9 ≤ 5 := gi_g g450_ rfl
            by_cases h455_ : F449_ 344 9 = 0
            ·
              refine ga_aload_n (v := .ref 344) hm_184 rfl rfl rfl ?_
              refine fl_bipush hm_184 rfl rfl ?_
              have b456_ : 0 ≤ F449_ 344 5 ∧ F449_ 344 5 ≤ 600 := gi_g g450_ rfl
              refine gVi (nY := 2) (F := 1) (L := 20) (As := [.int (Int32.ofInt 41)]) (b := 344) (rest := []) hm_184 rfl hm_52 rfl rfl (fl_ob sc_344) rfl rfl rfl rfl rfl (by omega) (by omega) (mc_52 hG F449_ X g450_ (K) (41) hgK rk453_ hkt (⟨by omega, by omega⟩) (by omega)) (fun _ _ h => False.elim h) ?_
              rintro z457_ A1_ (⟨hA_, hz_, c458_⟩ | ⟨hA_, hz_, c459_, c460_⟩)
              ·
                subst hA_
                subst hz_
                refine fl_if_ne hm_184 rfl ⟨by omega, by omega⟩ (fun h => absurd h (by omega)) (fun _ => ?_)
                refine fl_iconst hm_184 rfl ?_
                refine fl_goto hm_184 rfl ?_
                refine ga_istore_n (lv2 := [(3, .int (Int32.ofInt 1)), (1, .long (Int64.ofInt z93_)), (0, .ref 344)]) hm_184 rfl (Nat.le_of_ble_eq_true rfl) rfl ?_
                refine fl_goto hm_184 rfl ?_
                have b461_ : 0 ≤ K 1 6 ∧ K 1 6 ≤ 601 := gi_g hgK rfl
                have e462_ : F6_ 5 2 = F 5 2 := (s8_ 5 2 rfl).trans (rfl)
                have e463_ : F16_ 5 2 = F 5 2 := (s18_ 5 2 rfl).trans (e462_)
                have e464_ : F26_ 5 2 = F 5 2 := (s28_ 5 2 rfl).trans (e463_)
                have e465_ : F36_ 5 2 = F 5 2 := (s38_ 5 2 rfl).trans (e464_)
                have e466_ : F48_ 5 2 = F 5 2 := (s50_ 5 2 rfl).trans (e465_)
                have e467_ : F57_ 5 2 = F 5 2 := (s59_ 5 2 rfl).trans (e466_)
                have e468_ : F67_ 5 2 = F 5 2 := (s69_ 5 2 rfl).trans (e467_)
                have e469_ : F77_ 5 2 = F 5 2 := (s79_ 5 2 rfl).trans (e468_)
                have e470_ : F87_ 5 2 = F 5 2 := (s89_ 5 2 rfl).trans (e469_)
                have e471_ : F99_ 5 2 = F 5 2 := (s101_ 5 2 rfl).trans (e470_)
                have e472_ : F127_ 5 2 = F 5 2 := (s129_ 5 2 rfl).trans (e471_)
                have e473_ : F137_ 5 2 = F 5 2 := (s139_ 5 2 rfl).trans (e472_)
                have e474_ : F147_ 5 2 = F 5 2 := (s149_ 5 2 rfl).trans (e473_)
                have e475_ : F157_ 5 2 = F 5 2 := (s159_ 5 2 rfl).trans (e474_)
                have e476_ : F1 5 2 = F 5 2 := (hf_F1 5 2 rfl).trans (e475_)
                have e477_ : F449_ 5 2 = F 5 2 := (s451_ 5 2 rfl).trans (e476_)
                have b478_ : 0 ≤ F 5 2 ∧ F 5 2 ≤ 600 := gi_g hgi rfl
                have b479_ : 0 ≤ F449_ 344 33 ∧ F449_ 344 33 ≤ 6 := gi_g g450_ rfl
                exact ih166_ _ (by omega) (1) (l2_) (tl2_) F449_ rfl g450_ (fs_tr hf_F1 s451_ rfl) (by omega) (⟨by omega, by omega⟩) (⟨by omega, by omega⟩) (ht2_)
              subst hA_
              subst hz_
              refine fl_if_ne hm_184 rfl ⟨by omega, by omega⟩ (fun _ => ?_) (fun h => absurd (by omega) h)
              refine fl_iconst hm_184 rfl ?_
              refine ga_istore_n (lv2 := [(3, .int (Int32.ofInt 0)), (1, .long (Int64.ofInt z93_)), (0, .ref 344)]) hm_184 rfl (Nat.le_of_ble_eq_true rfl) rfl ?_
              refine fl_goto hm_184 rfl ?_
              have b480_ : 0 ≤ K 1 6 ∧ K 1 6 ≤ 601 := gi_g hgK rfl
              have e481_ : F6_ 5 2 = F 5 2 := (s8_ 5 2 rfl).trans (rfl)
              have e482_ : F16_ 5 2 = F 5 2 := (s18_ 5 2 rfl).trans (e481_)
              have e483_ : F26_ 5 2 = F 5 2 := (s28_ 5 2 rfl).trans (e482_)
              have e484_ : F36_ 5 2 = F 5 2 := (s38_ 5 2 rfl).trans (e483_)
              have e485_ : F48_ 5 2 = F 5 2 := (s50_ 5 2 rfl).trans (e484_)
              have e486_ : F57_ 5 2 = F 5 2 := (s59_ 5 2 rfl).trans (e485_)
              have e487_ : F67_ 5 2 = F 5 2 := (s69_ 5 2 rfl).trans (e486_)
              have e488_ : F77_ 5 2 = F 5 2 := (s79_ 5 2 rfl).trans (e487_)
              have e489_ : F87_ 5 2 = F 5 2 := (s89_ 5 2 rfl).trans (e488_)
              have e490_ : F99_ 5 2 = F 5 2 := (s101_ 5 2 rfl).trans (e489_)
              have e491_ : F127_ 5 2 = F 5 2 := (s129_ 5 2 rfl).trans (e490_)
              have e492_ : F137_ 5 2 = F 5 2 := (s139_ 5 2 rfl).trans (e491_)
              have e493_ : F147_ 5 2 = F 5 2 := (s149_ 5 2 rfl).trans (e492_)
              have e494_ : F157_ 5 2 = F 5 2 := (s159_ 5 2 rfl).trans (e493_)
              have e495_ : F1 5 2 = F 5 2 := (hf_F1 5 2 rfl).trans (e494_)
              have e496_ : F449_ 5 2 = F 5 2 := (s451_ 5 2 rfl).trans (e495_)
              have b497_ : 0 ≤ F 5 2 ∧ F 5 2 ≤ 600 := gi_g hgi rfl
              have b498_ : 0 ≤ F449_ 344 33 ∧ F449_ 344 33 ≤ 6 := gi_g g450_ rfl
              exact ih166_ _ (by omega) (0) (l2_) (tl2_) F449_ rfl g450_ (fs_tr hf_F1 s451_ rfl) (by omega) (⟨by omega, by omega⟩) (⟨by omega, by omega⟩) (ht2_)
            refine ga_aload_n (v := .ref 344) hm_184 rfl rfl rfl ?_
            refine fl_bipush hm_184 rfl rfl ?_
            have b499_ : 0 ≤ F449_ 344 5 ∧ F449_ 344 5 ≤ 600 := gi_g g450_ rfl
            refine gVi (nY := 2) (F := 1) (L := 20) (As := [.int (Int32.ofInt 41)]) (b := 344) (rest := []) hm_184 rfl hm_52 rfl rfl (fl_ob sc_344) rfl rfl rfl rfl rfl (by omega) (by omega) (mc_52 hG F449_ X g450_ (K) (41) hgK rk453_ hkt (⟨by omega, by omega⟩) (by omega)) (fun _ _ h => False.elim h) ?_
            rintro z500_ A1_ (⟨hA_, hz_, c501_⟩ | ⟨hA_, hz_, c502_, c503_⟩)
            ·
              subst hA_
              subst hz_
              refine fl_if_ne hm_184 rfl ⟨by omega, by omega⟩ (fun h => absurd h (by omega)) (fun _ => ?_)
              refine fl_iconst hm_184 rfl ?_
              refine fl_goto hm_184 rfl ?_
              refine ga_istore_n (lv2 := [(3, .int (Int32.ofInt 1)), (1, .long (Int64.ofInt z93_)), (0, .ref 344)]) hm_184 rfl (Nat.le_of_ble_eq_true rfl) rfl ?_
              refine fl_goto hm_184 rfl ?_
              refine ga_iload_n (z := 1) hm_184 rfl rfl ?_
              refine fl_if_eq hm_184 rfl ⟨by omega, by omega⟩ (fun h => absurd h (by omega)) (fun _ => ?_)
              refine ga_aload_n (v := .ref 344) hm_184 rfl rfl rfl ?_
              refine gIi (nY := 1) (F := 0) (L := 0) (As := []) (b := 344) (rest := []) hm_184 rfl hm_59 rfl rfl (fl_ob sc_344) rfl rfl rfl rfl rfl (by omega) (by omega) ?_
              intro f504_ l505_ h506_ h507_
              show fl_R xi_ms 59 f504_ l505_ 0 [(0, .ref 344)] [] _ _
              refine ga_aload_n (v := .ref 344) hm_59 rfl rfl rfl ?_
              refine ga_geti (z := F449_ 344 9) hm_59 rfl sc_344 rfl (rfl) ?_
              refine fl_if_le (a := F449_ 344 9) hm_59 rfl ⟨by omega, by omega⟩ (fun h508_ => ?_) (fun h509_ => ?_)
              · exfalso; omega
              refine fl_iconst hm_59 rfl ?_
              refine fl_goto hm_59 rfl ?_
              refine gr_i hm_59 rfl rfl (ga_nb (by omega)) ?_
              clear h506_ h507_ f504_ l505_
              refine fl_if_ne hm_184 rfl ⟨by omega, by omega⟩ (fun _ => ?_) (fun h => absurd (by omega) h)
              refine ga_aload_n (v := .ref 344) hm_184 rfl rfl rfl ?_
              refine fl_bipush hm_184 rfl rfl ?_
              refine gVv (nY := 2) (F := 2) (L := 41) (As := [.int (Int32.ofInt 41)]) (b := 344) (rest := []) hm_184 rfl hm_51 rfl rfl (fl_ob sc_344) rfl rfl rfl rfl rfl (by omega) (by omega) (mc_51s hG F449_ X g450_ (K) (41) (1) hgK rk453_ hkt (⟨by omega, by omega⟩) (by omega) (by omega)) (fun _ _ h => False.elim h) ?_
              rintro A1_ ⟨F513_, hA_, g514_, s515_, c511_, c512_⟩
              subst hA_
              have g516_ : fs [(344, 344, 5, 5), (344, 344, 9, 10), (344, 344, 33, 33), (344, 344, 36, 36), (344, 344, 64, 64), (358, 358, 0, 100000), (360, 366, 0, 100000)] F F513_ := fs_tr g452_ s515_ rfl
              have rk517_ : rk K F513_ := rk_fs rk453_ s515_ (fs_rg rfl) rfl
              refine ga_aload_n (v := .ref 344) hm_184 rfl rfl rfl ?_
              refine gIi (nY := 1) (F := 0) (L := 0) (As := []) (b := 344) (rest := []) hm_184 rfl hm_59 rfl rfl (fl_ob sc_344) rfl rfl rfl rfl rfl (by omega) (by omega) ?_
              intro f518_ l519_ h520_ h521_
              show fl_R xi_ms 59 f518_ l519_ 0 [(0, .ref 344)] [] _ _
              refine ga_aload_n (v := .ref 344) hm_59 rfl rfl rfl ?_
              have b522_ : 0 ≤ F513_ 344 9 ∧ F513_ 344 9 ≤ 5 := gi_g g514_ rfl
              refine ga_geti (z := F513_ 344 9) hm_59 rfl sc_344 rfl (rfl) ?_
              refine fl_if_le (a := F513_ 344 9) hm_59 rfl ⟨by omega, by omega⟩ (fun h523_ => ?_) (fun h524_ => ?_)
              ·
                refine fl_iconst hm_59 rfl ?_
                refine gr_i hm_59 rfl rfl (ga_nb (by omega)) ?_
                clear h520_ h521_ f518_ l519_
                refine fl_if_ne hm_184 rfl ⟨by omega, by omega⟩ (fun h => absurd h (by omega)) (fun _ => ?_)
                refine ga_aload_n (v := .ref 344) hm_184 rfl rfl rfl ?_
                refine gVv (nY := 6) (F := 1) (L := 22) (As := []) (b := 344) (rest := []) hm_184 rfl hm_171 rfl rfl (fl_ob sc_344) rfl rfl rfl rfl rfl (by omega) (by omega) (mc_171 hG F513_ X g514_) (fun _ _ h => False.elim h) ?_
                rintro A1_ ⟨F526_, hA_, g527_, s528_⟩
                subst hA_
                have g529_ : fs [(344, 344, 5, 5), (344, 344, 9, 10), (344, 344, 33, 33), (344, 344, 36, 36), (344, 344, 64, 64), (358, 358, 0, 100000), (360, 366, 0, 100000)] F F526_ := fs_tr g516_ s528_ rfl
                have rk530_ : rk K F526_ := rk_fs rk517_ s528_ (fs_rg rfl) rfl
                refine ga_aload_n (v := .ref 344) hm_184 rfl rfl rfl ?_
                refine fl_bipush hm_184 rfl rfl ?_
                have e531_ : F526_ 344 5 = F513_ 344 5 := (s528_ 344 5 rfl).trans (rfl)
                have b532_ : 0 ≤ F513_ 344 5 ∧ F513_ 344 5 ≤ 600 := gi_g g514_ rfl
                refine gVv (nY := 2) (F := 2) (L := 41) (As := [.int (Int32.ofInt 40)]) (b := 344) (rest := []) hm_184 rfl hm_51 rfl rfl (fl_ob sc_344) rfl rfl rfl rfl rfl (by omega) (by omega) (mc_51s hG F526_ X g527_ (K) (40) (0) hgK rk530_ hkt (⟨by omega, by omega⟩) (by omega) (by omega)) (fun _ _ h => False.elim h) ?_
                have e534_ : F526_ 344 9 = F513_ 344 9 := (s528_ 344 9 rfl).trans (rfl)
                rintro A1_ ⟨F537_, hA_, g538_, s539_, c535_, c536_⟩
                subst hA_
                have g540_ : fs [(344, 344, 5, 5), (344, 344, 9, 10), (344, 344, 33, 33), (344, 344, 36, 36), (344, 344, 64, 64), (358, 358, 0, 100000), (360, 366, 0, 100000)] F F537_ := fs_tr g529_ s539_ rfl
                have rk541_ : rk K F537_ := rk_fs rk530_ s539_ (fs_rg rfl) rfl
                try simp only [e534_] at c535_
                refine ga_aload_n (v := .ref 344) hm_184 rfl rfl rfl ?_
                refine fl_bipush hm_184 rfl rfl ?_
                have b542_ : 0 ≤ F537_ 344 5 ∧ F537_ 344 5 ≤ 600 := gi_g g538_ rfl
                refine gVv (nY := 2) (F := 2) (L := 44) (As := [.int (Int32.ofInt 16)]) (b := 344) (rest := []) hm_184 rfl hm_55 rfl rfl (fl_ob sc_344) rfl rfl rfl rfl rfl (by omega) (by omega) (mc_55s hG F537_ X g538_ (K) (16) ([58, 105, 110, 105, 116]) hgK rk541_ hkt (⟨by omega, by omega⟩) (⟨by omega, by omega⟩) (by decide) (kw_16 rk541_)) (fun _ _ h => False.elim h) ?_
                have b544_ : 0 ≤ F537_ 344 9 ∧ F537_ 344 9 ≤ 5 := gi_g g538_ rfl
                rintro A1_ ⟨F547_, hA_, g548_, s549_, c545_, c546_⟩
                subst hA_
                have g550_ : fs [(344, 344, 5, 5), (344, 344, 9, 10), (344, 344, 33, 33), (344, 344, 36, 36), (344, 344, 64, 64), (358, 358, 0, 100000), (360, 366, 0, 100000)] F F547_ := fs_tr g540_ s549_ rfl
                have rk551_ : rk K F547_ := rk_fs rk541_ s549_ (fs_rg rfl) rfl
                refine ga_aload_n (v := .ref 344) hm_184 rfl rfl rfl ?_
                have b552_ : 0 ≤ F547_ 344 5 ∧ F547_ 344 5 ≤ 600 := gi_g g548_ rfl
                refine gVv (nY := 2) (F := 5) (L := 117) (As := []) (b := 344) (rest := []) hm_184 rfl hm_178 rfl rfl (fl_ob sc_344) rfl rfl rfl rfl rfl (by omega) (by omega) (mc_178 hG F547_ X g548_ (K) (l2_) (tl2_) (pl) (ps) hgK rk551_ hkt (⟨by omega, by omega⟩) ((trm_fs (trm_fs (trm_fs (trm_fs ht2_.1 s515_ (by first | exact fs_rg rfl | exact fun r j hj => (fs_n (by omega) (fs_n (by omega) rfl)))) s528_ (by first | exact fs_rg rfl | exact fun r j hj => (fs_n (by omega) (fs_n (by omega) rfl)))) s539_ (by first | exact fs_rg rfl | exact fun r j hj => (fs_n (by omega) (fs_n (by omega) rfl)))) s549_ (by first | exact fs_rg rfl | exact fun r j hj => (fs_n (by omega) (fs_n (by omega) rfl))))) (ht2_.2) ((rpn_fs (rpn_fs (rpn_fs (rpn_fs (rpn_fs (rpn_fs (rpn_fs (rpn_fs (rpn_fs (rpn_fs (rpn_fs (rpn_fs (rpn_fs (rpn_fs (rpn_fs (rpn_fs (rpn_fs (rpn_fs (rpn_fs (rpn_fs hpl s8_ (fun _ => (by first | exact fs_c rfl | exact (fs_n (by omega) (fs_n (by omega) rfl)))) (by first | exact fs_c rfl | exact (fs_n (by omega) (fs_n (by omega) rfl)))) s18_ (fun _ => (by first | exact fs_c rfl | exact (fs_n (by omega) (fs_n (by omega) rfl)))) (by first | exact fs_c rfl | exact (fs_n (by omega) (fs_n (by omega) rfl)))) s28_ (fun _ => (by first | exact fs_c rfl | exact (fs_n (by omega) (fs_n (by omega) rfl)))) (by first | exact fs_c rfl | exact (fs_n (by omega) (fs_n (by omega) rfl)))) s38_ (fun _ => (by first | exact fs_c rfl | exact (fs_n (by omega) (fs_n (by omega) rfl)))) (by first | exact fs_c rfl | exact (fs_n (by omega) (fs_n (by omega) rfl)))) s50_ (fun _ => (by first | exact fs_c rfl | exact (fs_n (by omega) rfl))) (by first | exact fs_c rfl | exact (fs_n (by omega) rfl))) s59_ (fun _ => (by first | exact fs_c rfl | exact (fs_n (by omega) rfl))) (by first | exact fs_c rfl | exact (fs_n (by omega) rfl))) s69_ (fun _ => (by first | exact fs_c rfl | exact (fs_n (by omega) (fs_n (by omega) rfl)))) (by first | exact fs_c rfl | exact (fs_n (by omega) (fs_n (by omega) rfl)))) s79_ (fun _ => (by first | exact fs_c rfl | exact (fs_n (by omega) (fs_n (by omega) rfl)))) (by first | exact fs_c rfl | exact (fs_n (by omega) (fs_n (by omega) rfl)))) s89_ (fun _ => (by first | exact fs_c rfl | exact (fs_n (by omega) (fs_n (by omega) rfl)))) (by first | exact fs_c rfl | exact (fs_n (by omega) (fs_n (by omega) rfl)))) s101_ (fun _ => (by first | exact fs_c rfl | exact (fs_n (by omega) rfl))) (by first | exact fs_c rfl | exact (fs_n (by omega) rfl))) s129_ (fun _ => (by first | exact fs_c rfl | exact (fs_n (by omega) rfl))) (by first | exact fs_c rfl | exact (fs_n (by omega) rfl))) s139_ (fun _ => (by first | exact fs_c rfl | exact (fs_n (by omega) (fs_n (by omega) rfl)))) (by first | exact fs_c rfl | exact (fs_n (by omega) (fs_n (by omega) rfl)))) s149_ (fun _ => (by first | exact fs_c rfl | exact (fs_n (by omega) (fs_n (by omega) rfl)))) (by first | exact fs_c rfl | exact (fs_n (by omega) (fs_n (by omega) rfl)))) s159_ (fun _ => (by first | exact fs_c rfl | exact (fs_n (by omega) (fs_n (by omega) rfl)))) (by first | exact fs_c rfl | exact (fs_n (by omega) (fs_n (by omega) rfl)))) hf_F1 (fun _ => (by first | exact fs_c rfl | exact (fs_n (by omega) (fs_n (by omega) (fs_n (by omega) (fs_n (by omega) rfl)))))) (by first | exact fs_c rfl | exact (fs_n (by omega) (fs_n (by omega) (fs_n (by omega) (fs_n (by omega) rfl)))))) s451_ (fun _ => (by first | exact fs_c rfl | exact (fs_n (by omega) (fs_n (by omega) (fs_n (by omega) (fs_n (by omega) rfl)))))) (by first | exact fs_c rfl | exact (fs_n (by omega) (fs_n (by omega) (fs_n (by omega) (fs_n (by omega) rfl)))))) s515_ (fun _ => (by first | exact fs_c rfl | exact (fs_n (by omega) (fs_n (by omega) rfl)))) (by first | exact fs_c rfl | exact (fs_n (by omega) (fs_n (by omega) rfl)))) s528_ (fun _ => (by first | exact fs_c rfl | exact (fs_n (by omega) (fs_n (by omega) rfl)))) (by first | exact fs_c rfl | exact (fs_n (by omega) (fs_n (by omega) rfl)))) s539_ (fun _ => (by first | exact fs_c rfl | exact (fs_n (by omega) (fs_n (by omega) rfl)))) (by first | exact fs_c rfl | exact (fs_n (by omega) (fs_n (by omega) rfl)))) s549_ (fun _ => (by first | exact fs_c rfl | exact (fs_n (by omega) (fs_n (by omega) rfl)))) (by first | exact fs_c rfl | exact (fs_n (by omega) (fs_n (by omega) rfl))))) (⟨(rprd_fs (rprd_fs (rprd_fs (rprd_fs (rprd_fs (rprd_fs (rprd_fs (rprd_fs (rprd_fs (rprd_fs (rprd_fs (rprd_fs (rprd_fs (rprd_fs (rprd_fs (rprd_fs (rprd_fs (rprd_fs (rprd_fs (rprd_fs hps.1 s8_ (by first | exact fs_rg rfl | exact fun r j hj => (fs_n (by omega) (fs_n (by omega) rfl)))) s18_ (by first | exact fs_rg rfl | exact fun r j hj => (fs_n (by omega) (fs_n (by omega) rfl)))) s28_ (by first | exact fs_rg rfl | exact fun r j hj => (fs_n (by omega) (fs_n (by omega) rfl)))) s38_ (by first | exact fs_rg rfl | exact fun r j hj => (fs_n (by omega) (fs_n (by omega) rfl)))) s50_ (by first | exact fs_rg rfl | exact fun r j hj => (fs_n (by omega) rfl))) s59_ (by first | exact fs_rg rfl | exact fun r j hj => (fs_n (by omega) rfl))) s69_ (by first | exact fs_rg rfl | exact fun r j hj => (fs_n (by omega) (fs_n (by omega) rfl)))) s79_ (by first | exact fs_rg rfl | exact fun r j hj => (fs_n (by omega) (fs_n (by omega) rfl)))) s89_ (by first | exact fs_rg rfl | exact fun r j hj => (fs_n (by omega) (fs_n (by omega) rfl)))) s101_ (by first | exact fs_rg rfl | exact fun r j hj => (fs_n (by omega) rfl))) s129_ (by first | exact fs_rg rfl | exact fun r j hj => (fs_n (by omega) rfl))) s139_ (by first | exact fs_rg rfl | exact fun r j hj => (fs_n (by omega) (fs_n (by omega) rfl)))) s149_ (by first | exact fs_rg rfl | exact fun r j hj => (fs_n (by omega) (fs_n (by omega) rfl)))) s159_ (by first | exact fs_rg rfl | exact fun r j hj => (fs_n (by omega) (fs_n (by omega) rfl)))) hf_F1 (by first | exact fs_rg rfl | exact fun r j hj => (fs_n (by omega) (fs_n (by omega) (fs_n (by omega) (fs_n (by omega) rfl)))))) s451_ (by first | exact fs_rg rfl | exact fun r j hj => (fs_n (by omega) (fs_n (by omega) (fs_n (by omega) (fs_n (by omega) rfl)))))) s515_ (by first | exact fs_rg rfl | exact fun r j hj => (fs_n (by omega) (fs_n (by omega) rfl)))) s528_ (by first | exact fs_rg rfl | exact fun r j hj => (fs_n (by omega) (fs_n (by omega) rfl)))) s539_ (by first | exact fs_rg rfl | exact fun r j hj => (fs_n (by omega) (fs_n (by omega) rfl)))) s549_ (by first | exact fs_rg rfl | exact fun r j hj => (fs_n (by omega) (fs_n (by omega) rfl)))), hps.2⟩)) (fun _ _ h => False.elim h) ?_
                have b554_ : 0 ≤ F547_ 344 9 ∧ F547_ 344 9 ≤ 5 := gi_g g548_ rfl
                rintro A1_ ⟨F557_, hA_, g558_, s559_, c555_, c556_⟩
                subst hA_
                have g560_ : fs [(344, 344, 5, 5), (344, 344, 9, 10), (344, 344, 33, 33), (344, 344, 36, 36), (344, 344, 64, 64), (358, 358, 0, 100000), (360, 366, 0, 100000)] F F557_ := fs_tr g550_ s559_ rfl
                have rk561_ : rk K F557_ := rk_fs rk551_ s559_ (fs_rg rfl) rfl
                refine ga_aload_n (v := .ref 344) hm_184 rfl rfl rfl ?_
                refine fl_bipush hm_184 rfl rfl ?_
                have b562_ : 0 ≤ F557_ 344 5 ∧ F557_ 344 5 ≤ 600 := gi_g g558_ rfl
                refine gVv (nY := 2) (F := 2) (L := 41) (As := [.int (Int32.ofInt 41)]) (b := 344) (rest := []) hm_184 rfl hm_51 rfl rfl (fl_ob sc_344) rfl rfl rfl rfl rfl (by omega) (by omega) (mc_51s hG F557_ X g558_ (K) (41) (1) hgK rk561_ hkt (⟨by omega, by omega⟩) (by omega) (by omega)) (fun _ _ h => False.elim h) ?_
                have b564_ : 0 ≤ F557_ 344 9 ∧ F557_ 344 9 ≤ 5 := gi_g g558_ rfl
                rintro A1_ ⟨F567_, hA_, g568_, s569_, c565_, c566_⟩
                subst hA_
                have g570_ : fs [(344, 344, 5, 5), (344, 344, 9, 10), (344, 344, 33, 33), (344, 344, 36, 36), (344, 344, 64, 64), (358, 358, 0, 100000), (360, 366, 0, 100000)] F F567_ := fs_tr g560_ s569_ rfl
                have rk571_ : rk K F567_ := rk_fs rk561_ s569_ (fs_rg rfl) rfl
                refine ga_aload_n (v := .ref 344) hm_184 rfl rfl rfl ?_
                refine fl_bipush hm_184 rfl rfl ?_
                have b572_ : 0 ≤ F567_ 344 5 ∧ F567_ 344 5 ≤ 600 := gi_g g568_ rfl
                refine gVv (nY := 2) (F := 2) (L := 41) (As := [.int (Int32.ofInt 40)]) (b := 344) (rest := []) hm_184 rfl hm_51 rfl rfl (fl_ob sc_344) rfl rfl rfl rfl rfl (by omega) (by omega) (mc_51s hG F567_ X g568_ (K) (40) (0) hgK rk571_ hkt (⟨by omega, by omega⟩) (by omega) (by omega)) (fun _ _ h => False.elim h) ?_
                have b574_ : 0 ≤ F567_ 344 9 ∧ F567_ 344 9 ≤ 5 := gi_g g568_ rfl
                rintro A1_ ⟨F577_, hA_, g578_, s579_, c575_, c576_⟩
                subst hA_
                have g580_ : fs [(344, 344, 5, 5), (344, 344, 9, 10), (344, 344, 33, 33), (344, 344, 36, 36), (344, 344, 64, 64), (358, 358, 0, 100000), (360, 366, 0, 100000)] F F577_ := fs_tr g570_ s579_ rfl
                have rk581_ : rk K F577_ := rk_fs rk571_ s579_ (fs_rg rfl) rfl
                refine ga_aload_n (v := .ref 344) hm_184 rfl rfl rfl ?_
                refine fl_bipush hm_184 rfl rfl ?_
                have b582_ : 0 ≤ F577_ 344 5 ∧ F577_ 344 5 ≤ 600 := gi_g g578_ rfl
                refine gVv (nY := 2) (F := 2) (L := 44) (As := [.int (Int32.ofInt 17)]) (b := 344) (rest := []) hm_184 rfl hm_55 rfl rfl (fl_ob sc_344) rfl rfl rfl rfl rfl (by omega) (by omega) (mc_55s hG F577_ X g578_ (K) (17) ([58, 103, 111, 97, 108]) hgK rk581_ hkt (⟨by omega, by omega⟩) (⟨by omega, by omega⟩) (by decide) (kw_17 rk581_)) (fun _ _ h => False.elim h) ?_
                have b584_ : 0 ≤ F577_ 344 9 ∧ F577_ 344 9 ≤ 5 := gi_g g578_ rfl
                rintro A1_ ⟨F587_, hA_, g588_, s589_, c585_, c586_⟩
                subst hA_
                have g590_ : fs [(344, 344, 5, 5), (344, 344, 9, 10), (344, 344, 33, 33), (344, 344, 36, 36), (344, 344, 64, 64), (358, 358, 0, 100000), (360, 366, 0, 100000)] F F587_ := fs_tr g580_ s589_ rfl
                have rk591_ : rk K F587_ := rk_fs rk581_ s589_ (fs_rg rfl) rfl
                refine ga_aload_n (v := .ref 344) hm_184 rfl rfl rfl ?_
                refine ga_getr (b := 358) hm_184 rfl sc_344 rfl ?_
                refine fl_iconst hm_184 rfl ?_
                refine fl_iconst hm_184 rfl ?_
                refine fl_iast (z := 5) (v := 0) hm_184 rfl sc_358 (by omega) (by omega) (by omega) ?_
                refine ga_aload_n (v := .ref 344) hm_184 rfl rfl rfl ?_
                refine fl_iconst hm_184 rfl ?_
                refine fl_bipush hm_184 rfl rfl ?_
                obtain ⟨F592_, q593_⟩ : ∃ Fq_, Fq_ = (fl_u F587_ 358 (5 : Int).toNat 0) := ⟨_, rfl⟩
                rw [← q593_]
                have g594_ : gi F592_ := by rw [q593_]; exact gi_u (g588_) rfl (by omega) (by omega)
                have g595_ : fs [(344, 344, 5, 5), (344, 344, 9, 10), (344, 344, 33, 33), (344, 344, 36, 36), (344, 344, 64, 64), (358, 358, 0, 100000), (360, 366, 0, 100000)] F F592_ := by rw [q593_]; exact fs_u (g590_) rfl
                have rk596_ : rk K F592_ := by rw [q593_]; exact rk_u (rk591_) (by first | decide | exact nc_ rfl | omega) (by first | decide | exact nc_ rfl | omega)
                have e597_ : F592_ 344 5 = F587_ 344 5 := by rw [q593_]; exact fl_u_ne (by first | exact nc_ rfl | decide | omega)
                have b598_ : 0 ≤ F587_ 344 5 ∧ F587_ 344 5 ≤ 600 := gi_g g588_ rfl
                refine gVv (nY := 4) (F := 6) (L := 142) (As := [.int (Int32.ofInt 5), .int (Int32.ofInt 40)]) (b := 344) (rest := []) hm_184 rfl hm_175 rfl rfl (fl_ob sc_344) rfl rfl rfl rfl rfl (by omega) (by omega) (mc_175s hG F592_ X g594_ (K) (5) (40) (2) (l2_) (tl2_) (pl) (ps) hgK rk596_ hkt (⟨by omega, by omega⟩) ((by rw [q593_]; exact (trm_u (trm_fs (trm_fs (trm_fs (trm_fs (trm_fs (trm_fs (trm_fs (trm_fs ht2_.1 s515_ (by first | exact fs_rg rfl | exact fun r j hj => (fs_n (by omega) (fs_n (by omega) rfl)))) s528_ (by first | exact fs_rg rfl | exact fun r j hj => (fs_n (by omega) (fs_n (by omega) rfl)))) s539_ (by first | exact fs_rg rfl | exact fun r j hj => (fs_n (by omega) (fs_n (by omega) rfl)))) s549_ (by first | exact fs_rg rfl | exact fun r j hj => (fs_n (by omega) (fs_n (by omega) rfl)))) s559_ (by first | exact fs_rg rfl | exact fun r j hj => (fs_n (by omega) (fs_n (by omega) (fs_n (by omega) (fs_n (by omega) rfl)))))) s569_ (by first | exact fs_rg rfl | exact fun r j hj => (fs_n (by omega) (fs_n (by omega) rfl)))) s579_ (by first | exact fs_rg rfl | exact fun r j hj => (fs_n (by omega) (fs_n (by omega) rfl)))) s589_ (by first | exact fs_rg rfl | exact fun r j hj => (fs_n (by omega) (fs_n (by omega) rfl)))) (by first | decide | exact nc_ rfl | omega)))) (ht2_.2) (⟨by omega, by omega⟩) ((by rw [q593_]; exact (rpn_u (rpn_fs (rpn_fs (rpn_fs (rpn_fs (rpn_fs (rpn_fs (rpn_fs (rpn_fs (rpn_fs (rpn_fs (rpn_fs (rpn_fs (rpn_fs (rpn_fs (rpn_fs (rpn_fs (rpn_fs (rpn_fs (rpn_fs (rpn_fs (rpn_fs (rpn_fs (rpn_fs (rpn_fs hpl s8_ (fun _ => (by first | exact fs_c rfl | exact (fs_n (by omega) (fs_n (by omega) rfl)))) (by first | exact fs_c rfl | exact (fs_n (by omega) (fs_n (by omega) rfl)))) s18_ (fun _ => (by first | exact fs_c rfl | exact (fs_n (by omega) (fs_n (by omega) rfl)))) (by first | exact fs_c rfl | exact (fs_n (by omega) (fs_n (by omega) rfl)))) s28_ (fun _ => (by first | exact fs_c rfl | exact (fs_n (by omega) (fs_n (by omega) rfl)))) (by first | exact fs_c rfl | exact (fs_n (by omega) (fs_n (by omega) rfl)))) s38_ (fun _ => (by first | exact fs_c rfl | exact (fs_n (by omega) (fs_n (by omega) rfl)))) (by first | exact fs_c rfl | exact (fs_n (by omega) (fs_n (by omega) rfl)))) s50_ (fun _ => (by first | exact fs_c rfl | exact (fs_n (by omega) rfl))) (by first | exact fs_c rfl | exact (fs_n (by omega) rfl))) s59_ (fun _ => (by first | exact fs_c rfl | exact (fs_n (by omega) rfl))) (by first | exact fs_c rfl | exact (fs_n (by omega) rfl))) s69_ (fun _ => (by first | exact fs_c rfl | exact (fs_n (by omega) (fs_n (by omega) rfl)))) (by first | exact fs_c rfl | exact (fs_n (by omega) (fs_n (by omega) rfl)))) s79_ (fun _ => (by first | exact fs_c rfl | exact (fs_n (by omega) (fs_n (by omega) rfl)))) (by first | exact fs_c rfl | exact (fs_n (by omega) (fs_n (by omega) rfl)))) s89_ (fun _ => (by first | exact fs_c rfl | exact (fs_n (by omega) (fs_n (by omega) rfl)))) (by first | exact fs_c rfl | exact (fs_n (by omega) (fs_n (by omega) rfl)))) s101_ (fun _ => (by first | exact fs_c rfl | exact (fs_n (by omega) rfl))) (by first | exact fs_c rfl | exact (fs_n (by omega) rfl))) s129_ (fun _ => (by first | exact fs_c rfl | exact (fs_n (by omega) rfl))) (by first | exact fs_c rfl | exact (fs_n (by omega) rfl))) s139_ (fun _ => (by first | exact fs_c rfl | exact (fs_n (by omega) (fs_n (by omega) rfl)))) (by first | exact fs_c rfl | exact (fs_n (by omega) (fs_n (by omega) rfl)))) s149_ (fun _ => (by first | exact fs_c rfl | exact (fs_n (by omega) (fs_n (by omega) rfl)))) (by first | exact fs_c rfl | exact (fs_n (by omega) (fs_n (by omega) rfl)))) s159_ (fun _ => (by first | exact fs_c rfl | exact (fs_n (by omega) (fs_n (by omega) rfl)))) (by first | exact fs_c rfl | exact (fs_n (by omega) (fs_n (by omega) rfl)))) hf_F1 (fun _ => (by first | exact fs_c rfl | exact (fs_n (by omega) (fs_n (by omega) (fs_n (by omega) (fs_n (by omega) rfl)))))) (by first | exact fs_c rfl | exact (fs_n (by omega) (fs_n (by omega) (fs_n (by omega) (fs_n (by omega) rfl)))))) s451_ (fun _ => (by first | exact fs_c rfl | exact (fs_n (by omega) (fs_n (by omega) (fs_n (by omega) (fs_n (by omega) rfl)))))) (by first | exact fs_c rfl | exact (fs_n (by omega) (fs_n (by omega) (fs_n (by omega) (fs_n (by omega) rfl)))))) s515_ (fun _ => (by first | exact fs_c rfl | exact (fs_n (by omega) (fs_n (by omega) rfl)))) (by first | exact fs_c rfl | exact (fs_n (by omega) (fs_n (by omega) rfl)))) s528_ (fun _ => (by first | exact fs_c rfl | exact (fs_n (by omega) (fs_n (by omega) rfl)))) (by first | exact fs_c rfl | exact (fs_n (by omega) (fs_n (by omega) rfl)))) s539_ (fun _ => (by first | exact fs_c rfl | exact (fs_n (by omega) (fs_n (by omega) rfl)))) (by first | exact fs_c rfl | exact (fs_n (by omega) (fs_n (by omega) rfl)))) s549_ (fun _ => (by first | exact fs_c rfl | exact (fs_n (by omega) (fs_n (by omega) rfl)))) (by first | exact fs_c rfl | exact (fs_n (by omega) (fs_n (by omega) rfl)))) s559_ (fun _ => (by first | exact fs_c rfl | exact (fs_n (by omega) (fs_n (by omega) (fs_n (by omega) (fs_n (by omega) rfl)))))) (by first | exact fs_c rfl | exact (fs_n (by omega) (fs_n (by omega) (fs_n (by omega) (fs_n (by omega) rfl)))))) s569_ (fun _ => (by first | exact fs_c rfl | exact (fs_n (by omega) (fs_n (by omega) rfl)))) (by first | exact fs_c rfl | exact (fs_n (by omega) (fs_n (by omega) rfl)))) s579_ (fun _ => (by first | exact fs_c rfl | exact (fs_n (by omega) (fs_n (by omega) rfl)))) (by first | exact fs_c rfl | exact (fs_n (by omega) (fs_n (by omega) rfl)))) s589_ (fun _ => (by first | exact fs_c rfl | exact (fs_n (by omega) (fs_n (by omega) rfl)))) (by first | exact fs_c rfl | exact (fs_n (by omega) (fs_n (by omega) rfl)))) (by first | decide | exact nc_ rfl | omega) (by first | decide | exact nc_ rfl | omega)))) (⟨(by rw [q593_]; exact (rprd_u (rprd_fs (rprd_fs (rprd_fs (rprd_fs (rprd_fs (rprd_fs (rprd_fs (rprd_fs (rprd_fs (rprd_fs (rprd_fs (rprd_fs (rprd_fs (rprd_fs (rprd_fs (rprd_fs (rprd_fs (rprd_fs (rprd_fs (rprd_fs (rprd_fs (rprd_fs (rprd_fs (rprd_fs hps.1 s8_ (by first | exact fs_rg rfl | exact fun r j hj => (fs_n (by omega) (fs_n (by omega) rfl)))) s18_ (by first | exact fs_rg rfl | exact fun r j hj => (fs_n (by omega) (fs_n (by omega) rfl)))) s28_ (by first | exact fs_rg rfl | exact fun r j hj => (fs_n (by omega) (fs_n (by omega) rfl)))) s38_ (by first | exact fs_rg rfl | exact fun r j hj => (fs_n (by omega) (fs_n (by omega) rfl)))) s50_ (by first | exact fs_rg rfl | exact fun r j hj => (fs_n (by omega) rfl))) s59_ (by first | exact fs_rg rfl | exact fun r j hj => (fs_n (by omega) rfl))) s69_ (by first | exact fs_rg rfl | exact fun r j hj => (fs_n (by omega) (fs_n (by omega) rfl)))) s79_ (by first | exact fs_rg rfl | exact fun r j hj => (fs_n (by omega) (fs_n (by omega) rfl)))) s89_ (by first | exact fs_rg rfl | exact fun r j hj => (fs_n (by omega) (fs_n (by omega) rfl)))) s101_ (by first | exact fs_rg rfl | exact fun r j hj => (fs_n (by omega) rfl))) s129_ (by first | exact fs_rg rfl | exact fun r j hj => (fs_n (by omega) rfl))) s139_ (by first | exact fs_rg rfl | exact fun r j hj => (fs_n (by omega) (fs_n (by omega) rfl)))) s149_ (by first | exact fs_rg rfl | exact fun r j hj => (fs_n (by omega) (fs_n (by omega) rfl)))) s159_ (by first | exact fs_rg rfl | exact fun r j hj => (fs_n (by omega) (fs_n (by omega) rfl)))) hf_F1 (by first | exact fs_rg rfl | exact fun r j hj => (fs_n (by omega) (fs_n (by omega) (fs_n (by omega) (fs_n (by omega) rfl)))))) s451_ (by first | exact fs_rg rfl | exact fun r j hj => (fs_n (by omega) (fs_n (by omega) (fs_n (by omega) (fs_n (by omega) rfl)))))) s515_ (by first | exact fs_rg rfl | exact fun r j hj => (fs_n (by omega) (fs_n (by omega) rfl)))) s528_ (by first | exact fs_rg rfl | exact fun r j hj => (fs_n (by omega) (fs_n (by omega) rfl)))) s539_ (by first | exact fs_rg rfl | exact fun r j hj => (fs_n (by omega) (fs_n (by omega) rfl)))) s549_ (by first | exact fs_rg rfl | exact fun r j hj => (fs_n (by omega) (fs_n (by omega) rfl)))) s559_ (by first | exact fs_rg rfl | exact fun r j hj => (fs_n (by omega) (fs_n (by omega) (fs_n (by omega) (fs_n (by omega) rfl)))))) s569_ (by first | exact fs_rg rfl | exact fun r j hj => (fs_n (by omega) (fs_n (by omega) rfl)))) s579_ (by first | exact fs_rg rfl | exact fun r j hj => (fs_n (by omega) (fs_n (by omega) rfl)))) s589_ (by first | exact fs_rg rfl | exact fun r j hj => (fs_n (by omega) (fs_n (by omega) rfl)))) (by first | decide | exact nc_ rfl | omega))), hps.2⟩) (⟨by omega, by omega⟩) (Or.inr (by omega)) (by rw [q593_]; exact fl_u_eq)) (fun _ _ h => False.elim h) ?_
                have e600_ : F592_ 344 9 = F587_ 344 9 := by rw [q593_]; exact fl_u_ne (by first | exact nc_ rfl | decide | omega)
                have b601_ : 0 ≤ F587_ 344 9 ∧ F587_ 344 9 ≤ 5 := gi_g g588_ rfl
                rintro A1_ ⟨F604_, hA_, g605_, s606_, c602_, c603_⟩
                subst hA_
                have g607_ : fs [(344, 344, 5, 5), (344, 344, 9, 10), (344, 344, 33, 33), (344, 344, 36, 36), (344, 344, 64, 64), (358, 358, 0, 100000), (360, 366, 0, 100000)] F F604_ := fs_tr g595_ s606_ rfl
                have rk608_ : rk K F604_ := rk_fs rk596_ s606_ (fs_rg rfl) rfl
                try simp only [e600_] at c602_
                refine ga_aload_n (v := .ref 344) hm_184 rfl rfl rfl ?_
                refine fl_bipush hm_184 rfl rfl ?_
                have b609_ : 0 ≤ F604_ 344 5 ∧ F604_ 344 5 ≤ 600 := gi_g g605_ rfl
                refine gVv (nY := 2) (F := 2) (L := 41) (As := [.int (Int32.ofInt 41)]) (b := 344) (rest := []) hm_184 rfl hm_51 rfl rfl (fl_ob sc_344) rfl rfl rfl rfl rfl (by omega) (by omega) (mc_51s hG F604_ X g605_ (K) (41) (1) hgK rk608_ hkt (⟨by omega, by omega⟩) (by omega) (by omega)) (fun _ _ h => False.elim h) ?_
                have b611_ : 0 ≤ F604_ 344 9 ∧ F604_ 344 9 ≤ 5 := gi_g g605_ rfl
                rintro A1_ ⟨F614_, hA_, g615_, s616_, c612_, c613_⟩
                subst hA_
                have g617_ : fs [(344, 344, 5, 5), (344, 344, 9, 10), (344, 344, 33, 33), (344, 344, 36, 36), (344, 344, 64, 64), (358, 358, 0, 100000), (360, 366, 0, 100000)] F F614_ := fs_tr g607_ s616_ rfl
                have rk618_ : rk K F614_ := rk_fs rk608_ s616_ (fs_rg rfl) rfl
                refine ga_aload_n (v := .ref 344) hm_184 rfl rfl rfl ?_
                refine fl_bipush hm_184 rfl rfl ?_
                have b619_ : 0 ≤ F614_ 344 5 ∧ F614_ 344 5 ≤ 600 := gi_g g615_ rfl
                refine gVv (nY := 2) (F := 2) (L := 41) (As := [.int (Int32.ofInt 41)]) (b := 344) (rest := []) hm_184 rfl hm_51 rfl rfl (fl_ob sc_344) rfl rfl rfl rfl rfl (by omega) (by omega) (mc_51s hG F614_ X g615_ (K) (41) (1) hgK rk618_ hkt (⟨by omega, by omega⟩) (by omega) (by omega)) (fun _ _ h => False.elim h) ?_
                have b621_ : 0 ≤ F614_ 344 9 ∧ F614_ 344 9 ≤ 5 := gi_g g615_ rfl
                rintro A1_ ⟨F624_, hA_, g625_, s626_, c622_, c623_⟩
                subst hA_
                have g627_ : fs [(344, 344, 5, 5), (344, 344, 9, 10), (344, 344, 33, 33), (344, 344, 36, 36), (344, 344, 64, 64), (358, 358, 0, 100000), (360, 366, 0, 100000)] F F624_ := fs_tr g617_ s626_ rfl
                have rk628_ : rk K F624_ := rk_fs rk618_ s626_ (fs_rg rfl) rfl
                refine ga_aload_n (v := .ref 344) hm_184 rfl rfl rfl ?_
                refine gIi (nY := 1) (F := 0) (L := 0) (As := []) (b := 344) (rest := []) hm_184 rfl hm_59 rfl rfl (fl_ob sc_344) rfl rfl rfl rfl rfl (by omega) (by omega) ?_
                intro f629_ l630_ h631_ h632_
                show fl_R xi_ms 59 f629_ l630_ 0 [(0, .ref 344)] [] _ _
                refine ga_aload_n (v := .ref 344) hm_59 rfl rfl rfl ?_
                have b633_ : 0 ≤ F624_ 344 9 ∧ F624_ 344 9 ≤ 5 := gi_g g625_ rfl
                refine ga_geti (z := F624_ 344 9) hm_59 rfl sc_344 rfl (rfl) ?_
                refine fl_if_le (a := F624_ 344 9) hm_59 rfl ⟨by omega, by omega⟩ (fun h634_ => ?_) (fun h635_ => ?_)
                ·
                  refine fl_iconst hm_59 rfl ?_
                  refine gr_i hm_59 rfl rfl (ga_nb (by omega)) ?_
                  clear h631_ h632_ f629_ l630_
                  refine fl_if_ne hm_184 rfl ⟨by omega, by omega⟩ (fun h => absurd h (by omega)) (fun _ => ?_)
                  refine ga_aload_n (v := .ref 344) hm_184 rfl rfl rfl ?_
                  have b636_ : 0 ≤ F624_ 344 5 ∧ F624_ 344 5 ≤ 600 := gi_g g625_ rfl
                  refine ga_geti (z := F624_ 344 5) hm_184 rfl sc_344 rfl (rfl) ?_
                  refine ga_aload_n (v := .ref 344) hm_184 rfl rfl rfl ?_
                  have e637_ : F624_ 344 4 = K 1 6 - 1 := rk628_.2.1
                  refine ga_geti (z := K 1 6 - 1) hm_184 rfl sc_344 rfl (e637_) ?_
                  refine fl_icmp_ge (a := F624_ 344 5) (b := K 1 6 - 1) hm_184 rfl ⟨by omega, by omega⟩ ⟨by omega, by omega⟩ (fun h638_ => ?_) (fun h639_ => ?_)
                  ·
                    refine gr_v hm_184 rfl rfl ?_
                    exact ⟨F624_, rfl, g625_, g627_, (⟨by omega, by omega⟩)⟩
                  refine ga_aload_n (v := .ref 344) hm_184 rfl rfl rfl ?_
                  refine fl_iconst hm_184 rfl ?_
                  refine gVv (nY := 2) (F := 0) (L := 0) (As := [.int (Int32.ofInt 1)]) (b := 344) (rest := []) hm_184 rfl hm_54 rfl rfl (fl_ob sc_344) rfl rfl rfl rfl rfl (by omega) (by omega) (mc_54 hG F624_ X g625_ (K) (1) hgK rk628_ hkt (⟨by omega, by omega⟩) (⟨by omega, by omega⟩)) (fun _ _ h => False.elim h) ?_
                  have b641_ : 0 ≤ F624_ 344 10 ∧ F624_ 344 10 ≤ 600 := gi_g g625_ rfl
                  rintro A1_ ⟨F645_, hA_, g646_, s647_, c642_, c643_, c644_⟩
                  subst hA_
                  have g648_ : fs [(344, 344, 5, 5), (344, 344, 9, 10), (344, 344, 33, 33), (344, 344, 36, 36), (344, 344, 64, 64), (358, 358, 0, 100000), (360, 366, 0, 100000)] F F645_ := fs_tr g627_ s647_ rfl
                  have rk649_ : rk K F645_ := rk_fs rk628_ s647_ (fs_rg rfl) rfl
                  have c643_s := c643_.1 (by omega)
                  clear c643_
                  refine gr_v hm_184 rfl rfl ?_
                  have e650_ : F645_ 344 5 = F624_ 344 5 := (s647_ 344 5 rfl).trans (rfl)
                  exact ⟨F645_, rfl, g646_, g648_, (⟨by omega, by omega⟩)⟩
                refine fl_iconst hm_59 rfl ?_
                refine fl_goto hm_59 rfl ?_
                refine gr_i hm_59 rfl rfl (ga_nb (by omega)) ?_
                clear h631_ h632_ f629_ l630_
                refine fl_if_ne hm_184 rfl ⟨by omega, by omega⟩ (fun _ => ?_) (fun h => absurd (by omega) h)
                refine gr_v hm_184 rfl rfl ?_
                have b651_ : 0 ≤ F624_ 344 5 ∧ F624_ 344 5 ≤ 600 := gi_g g625_ rfl
                exact ⟨F624_, rfl, g625_, g627_, (⟨by omega, by omega⟩)⟩
              refine fl_iconst hm_59 rfl ?_
              refine fl_goto hm_59 rfl ?_
              refine gr_i hm_59 rfl rfl (ga_nb (by omega)) ?_
              clear h520_ h521_ f518_ l519_
              refine fl_if_ne hm_184 rfl ⟨by omega, by omega⟩ (fun _ => ?_) (fun h => absurd (by omega) h)
              refine ga_aload_n (v := .ref 344) hm_184 rfl rfl rfl ?_
              refine fl_bipush hm_184 rfl rfl ?_
              have b652_ : 0 ≤ F513_ 344 5 ∧ F513_ 344 5 ≤ 600 := gi_g g514_ rfl
              refine gVv (nY := 2) (F := 2) (L := 41) (As := [.int (Int32.ofInt 40)]) (b := 344) (rest := []) hm_184 rfl hm_51 rfl rfl (fl_ob sc_344) rfl rfl rfl rfl rfl (by omega) (by omega) (mc_51s hG F513_ X g514_ (K) (40) (0) hgK rk517_ hkt (⟨by omega, by omega⟩) (by omega) (by omega)) (fun _ _ h => False.elim h) ?_
              rintro A1_ ⟨F656_, hA_, g657_, s658_, c654_, c655_⟩
              subst hA_
              have g659_ : fs [(344, 344, 5, 5), (344, 344, 9, 10), (344, 344, 33, 33), (344, 344, 36, 36), (344, 344, 64, 64), (358, 358, 0, 100000), (360, 366, 0, 100000)] F F656_ := fs_tr g516_ s658_ rfl
              have rk660_ : rk K F656_ := rk_fs rk517_ s658_ (fs_rg rfl) rfl
              refine ga_aload_n (v := .ref 344) hm_184 rfl rfl rfl ?_
              refine fl_bipush hm_184 rfl rfl ?_
              have b661_ : 0 ≤ F656_ 344 5 ∧ F656_ 344 5 ≤ 600 := gi_g g657_ rfl
              refine gVv (nY := 2) (F := 2) (L := 44) (As := [.int (Int32.ofInt 16)]) (b := 344) (rest := []) hm_184 rfl hm_55 rfl rfl (fl_ob sc_344) rfl rfl rfl rfl rfl (by omega) (by omega) (mc_55s hG F656_ X g657_ (K) (16) ([58, 105, 110, 105, 116]) hgK rk660_ hkt (⟨by omega, by omega⟩) (⟨by omega, by omega⟩) (by decide) (kw_16 rk660_)) (fun _ _ h => False.elim h) ?_
              have b663_ : 0 ≤ F656_ 344 9 ∧ F656_ 344 9 ≤ 5 := gi_g g657_ rfl
              rintro A1_ ⟨F666_, hA_, g667_, s668_, c664_, c665_⟩
              subst hA_
              have g669_ : fs [(344, 344, 5, 5), (344, 344, 9, 10), (344, 344, 33, 33), (344, 344, 36, 36), (344, 344, 64, 64), (358, 358, 0, 100000), (360, 366, 0, 100000)] F F666_ := fs_tr g659_ s668_ rfl
              have rk670_ : rk K F666_ := rk_fs rk660_ s668_ (fs_rg rfl) rfl
              refine ga_aload_n (v := .ref 344) hm_184 rfl rfl rfl ?_
              have b671_ : 0 ≤ F666_ 344 5 ∧ F666_ 344 5 ≤ 600 := gi_g g667_ rfl
              refine gVv (nY := 2) (F := 5) (L := 117) (As := []) (b := 344) (rest := []) hm_184 rfl hm_178 rfl rfl (fl_ob sc_344) rfl rfl rfl rfl rfl (by omega) (by omega) (mc_178 hG F666_ X g667_ (K) (l2_) (tl2_) (pl) (ps) hgK rk670_ hkt (⟨by omega, by omega⟩) ((trm_fs (trm_fs (trm_fs ht2_.1 s515_ (by first | exact fs_rg rfl | exact fun r j hj => (fs_n (by omega) (fs_n (by omega) rfl)))) s658_ (by first | exact fs_rg rfl | exact fun r j hj => (fs_n (by omega) (fs_n (by omega) rfl)))) s668_ (by first | exact fs_rg rfl | exact fun r j hj => (fs_n (by omega) (fs_n (by omega) rfl))))) (ht2_.2) ((rpn_fs (rpn_fs (rpn_fs (rpn_fs (rpn_fs (rpn_fs (rpn_fs (rpn_fs (rpn_fs (rpn_fs (rpn_fs (rpn_fs (rpn_fs (rpn_fs (rpn_fs (rpn_fs (rpn_fs (rpn_fs (rpn_fs hpl s8_ (fun _ => (by first | exact fs_c rfl | exact (fs_n (by omega) (fs_n (by omega) rfl)))) (by first | exact fs_c rfl | exact (fs_n (by omega) (fs_n (by omega) rfl)))) s18_ (fun _ => (by first | exact fs_c rfl | exact (fs_n (by omega) (fs_n (by omega) rfl)))) (by first | exact fs_c rfl | exact (fs_n (by omega) (fs_n (by omega) rfl)))) s28_ (fun _ => (by first | exact fs_c rfl | exact (fs_n (by omega) (fs_n (by omega) rfl)))) (by first | exact fs_c rfl | exact (fs_n (by omega) (fs_n (by omega) rfl)))) s38_ (fun _ => (by first | exact fs_c rfl | exact (fs_n (by omega) (fs_n (by omega) rfl)))) (by first | exact fs_c rfl | exact (fs_n (by omega) (fs_n (by omega) rfl)))) s50_ (fun _ => (by first | exact fs_c rfl | exact (fs_n (by omega) rfl))) (by first | exact fs_c rfl | exact (fs_n (by omega) rfl))) s59_ (fun _ => (by first | exact fs_c rfl | exact (fs_n (by omega) rfl))) (by first | exact fs_c rfl | exact (fs_n (by omega) rfl))) s69_ (fun _ => (by first | exact fs_c rfl | exact (fs_n (by omega) (fs_n (by omega) rfl)))) (by first | exact fs_c rfl | exact (fs_n (by omega) (fs_n (by omega) rfl)))) s79_ (fun _ => (by first | exact fs_c rfl | exact (fs_n (by omega) (fs_n (by omega) rfl)))) (by first | exact fs_c rfl | exact (fs_n (by omega) (fs_n (by omega) rfl)))) s89_ (fun _ => (by first | exact fs_c rfl | exact (fs_n (by omega) (fs_n (by omega) rfl)))) (by first | exact fs_c rfl | exact (fs_n (by omega) (fs_n (by omega) rfl)))) s101_ (fun _ => (by first | exact fs_c rfl | exact (fs_n (by omega) rfl))) (by first | exact fs_c rfl | exact (fs_n (by omega) rfl))) s129_ (fun _ => (by first | exact fs_c rfl | exact (fs_n (by omega) rfl))) (by first | exact fs_c rfl | exact (fs_n (by omega) rfl))) s139_ (fun _ => (by first | exact fs_c rfl | exact (fs_n (by omega) (fs_n (by omega) rfl)))) (by first | exact fs_c rfl | exact (fs_n (by omega) (fs_n (by omega) rfl)))) s149_ (fun _ => (by first | exact fs_c rfl | exact (fs_n (by omega) (fs_n (by omega) rfl)))) (by first | exact fs_c rfl | exact (fs_n (by omega) (fs_n (by omega) rfl)))) s159_ (fun _ => (by first | exact fs_c rfl | exact (fs_n (by omega) (fs_n (by omega) rfl)))) (by first | exact fs_c rfl | exact (fs_n (by omega) (fs_n (by omega) rfl)))) hf_F1 (fun _ => (by first | exact fs_c rfl | exact (fs_n (by omega) (fs_n (by omega) (fs_n (by omega) (fs_n (by omega) rfl)))))) (by first | exact fs_c rfl | exact (fs_n (by omega) (fs_n (by omega) (fs_n (by omega) (fs_n (by omega) rfl)))))) s451_ (fun _ => (by first | exact fs_c rfl | exact (fs_n (by omega) (fs_n (by omega) (fs_n (by omega) (fs_n (by omega) rfl)))))) (by first | exact fs_c rfl | exact (fs_n (by omega) (fs_n (by omega) (fs_n (by omega) (fs_n (by omega) rfl)))))) s515_ (fun _ => (by first | exact fs_c rfl | exact (fs_n (by omega) (fs_n (by omega) rfl)))) (by first | exact fs_c rfl | exact (fs_n (by omega) (fs_n (by omega) rfl)))) s658_ (fun _ => (by first | exact fs_c rfl | exact (fs_n (by omega) (fs_n (by omega) rfl)))) (by first | exact fs_c rfl | exact (fs_n (by omega) (fs_n (by omega) rfl)))) s668_ (fun _ => (by first | exact fs_c rfl | exact (fs_n (by omega) (fs_n (by omega) rfl)))) (by first | exact fs_c rfl | exact (fs_n (by omega) (fs_n (by omega) rfl))))) (⟨(rprd_fs (rprd_fs (rprd_fs (rprd_fs (rprd_fs (rprd_fs (rprd_fs (rprd_fs (rprd_fs (rprd_fs (rprd_fs (rprd_fs (rprd_fs (rprd_fs (rprd_fs (rprd_fs (rprd_fs (rprd_fs (rprd_fs hps.1 s8_ (by first | exact fs_rg rfl | exact fun r j hj => (fs_n (by omega) (fs_n (by omega) rfl)))) s18_ (by first | exact fs_rg rfl | exact fun r j hj => (fs_n (by omega) (fs_n (by omega) rfl)))) s28_ (by first | exact fs_rg rfl | exact fun r j hj => (fs_n (by omega) (fs_n (by omega) rfl)))) s38_ (by first | exact fs_rg rfl | exact fun r j hj => (fs_n (by omega) (fs_n (by omega) rfl)))) s50_ (by first | exact fs_rg rfl | exact fun r j hj => (fs_n (by omega) rfl))) s59_ (by first | exact fs_rg rfl | exact fun r j hj => (fs_n (by omega) rfl))) s69_ (by first | exact fs_rg rfl | exact fun r j hj => (fs_n (by omega) (fs_n (by omega) rfl)))) s79_ (by first | exact fs_rg rfl | exact fun r j hj => (fs_n (by omega) (fs_n (by omega) rfl)))) s89_ (by first | exact fs_rg rfl | exact fun r j hj => (fs_n (by omega) (fs_n (by omega) rfl)))) s101_ (by first | exact fs_rg rfl | exact fun r j hj => (fs_n (by omega) rfl))) s129_ (by first | exact fs_rg rfl | exact fun r j hj => (fs_n (by omega) rfl))) s139_ (by first | exact fs_rg rfl | exact fun r j hj => (fs_n (by omega) (fs_n (by omega) rfl)))) s149_ (by first | exact fs_rg rfl | exact fun r j hj => (fs_n (by omega) (fs_n (by omega) rfl)))) s159_ (by first | exact fs_rg rfl | exact fun r j hj => (fs_n (by omega) (fs_n (by omega) rfl)))) hf_F1 (by first | exact fs_rg rfl | exact fun r j hj => (fs_n (by omega) (fs_n (by omega) (fs_n (by omega) (fs_n (by omega) rfl)))))) s451_ (by first | exact fs_rg rfl | exact fun r j hj => (fs_n (by omega) (fs_n (by omega) (fs_n (by omega) (fs_n (by omega) rfl)))))) s515_ (by first | exact fs_rg rfl | exact fun r j hj => (fs_n (by omega) (fs_n (by omega) rfl)))) s658_ (by first | exact fs_rg rfl | exact fun r j hj => (fs_n (by omega) (fs_n (by omega) rfl)))) s668_ (by first | exact fs_rg rfl | exact fun r j hj => (fs_n (by omega) (fs_n (by omega) rfl)))), hps.2⟩)) (fun _ _ h => False.elim h) ?_
              have b673_ : 0 ≤ F666_ 344 9 ∧ F666_ 344 9 ≤ 5 := gi_g g667_ rfl
              rintro A1_ ⟨F676_, hA_, g677_, s678_, c674_, c675_⟩
              subst hA_
              have g679_ : fs [(344, 344, 5, 5), (344, 344, 9, 10), (344, 344, 33, 33), (344, 344, 36, 36), (344, 344, 64, 64), (358, 358, 0, 100000), (360, 366, 0, 100000)] F F676_ := fs_tr g669_ s678_ rfl
              have rk680_ : rk K F676_ := rk_fs rk670_ s678_ (fs_rg rfl) rfl
              refine ga_aload_n (v := .ref 344) hm_184 rfl rfl rfl ?_
              refine fl_bipush hm_184 rfl rfl ?_
              have b681_ : 0 ≤ F676_ 344 5 ∧ F676_ 344 5 ≤ 600 := gi_g g677_ rfl
              refine gVv (nY := 2) (F := 2) (L := 41) (As := [.int (Int32.ofInt 41)]) (b := 344) (rest := []) hm_184 rfl hm_51 rfl rfl (fl_ob sc_344) rfl rfl rfl rfl rfl (by omega) (by omega) (mc_51s hG F676_ X g677_ (K) (41) (1) hgK rk680_ hkt (⟨by omega, by omega⟩) (by omega) (by omega)) (fun _ _ h => False.elim h) ?_
              have b683_ : 0 ≤ F676_ 344 9 ∧ F676_ 344 9 ≤ 5 := gi_g g677_ rfl
              rintro A1_ ⟨F686_, hA_, g687_, s688_, c684_, c685_⟩
              subst hA_
              have g689_ : fs [(344, 344, 5, 5), (344, 344, 9, 10), (344, 344, 33, 33), (344, 344, 36, 36), (344, 344, 64, 64), (358, 358, 0, 100000), (360, 366, 0, 100000)] F F686_ := fs_tr g679_ s688_ rfl
              have rk690_ : rk K F686_ := rk_fs rk680_ s688_ (fs_rg rfl) rfl
              refine ga_aload_n (v := .ref 344) hm_184 rfl rfl rfl ?_
              refine fl_bipush hm_184 rfl rfl ?_
              have b691_ : 0 ≤ F686_ 344 5 ∧ F686_ 344 5 ≤ 600 := gi_g g687_ rfl
              refine gVv (nY := 2) (F := 2) (L := 41) (As := [.int (Int32.ofInt 40)]) (b := 344) (rest := []) hm_184 rfl hm_51 rfl rfl (fl_ob sc_344) rfl rfl rfl rfl rfl (by omega) (by omega) (mc_51s hG F686_ X g687_ (K) (40) (0) hgK rk690_ hkt (⟨by omega, by omega⟩) (by omega) (by omega)) (fun _ _ h => False.elim h) ?_
              have b693_ : 0 ≤ F686_ 344 9 ∧ F686_ 344 9 ≤ 5 := gi_g g687_ rfl
              rintro A1_ ⟨F696_, hA_, g697_, s698_, c694_, c695_⟩
              subst hA_
              have g699_ : fs [(344, 344, 5, 5), (344, 344, 9, 10), (344, 344, 33, 33), (344, 344, 36, 36), (344, 344, 64, 64), (358, 358, 0, 100000), (360, 366, 0, 100000)] F F696_ := fs_tr g689_ s698_ rfl
              have rk700_ : rk K F696_ := rk_fs rk690_ s698_ (fs_rg rfl) rfl
              refine ga_aload_n (v := .ref 344) hm_184 rfl rfl rfl ?_
              refine fl_bipush hm_184 rfl rfl ?_
              have b701_ : 0 ≤ F696_ 344 5 ∧ F696_ 344 5 ≤ 600 := gi_g g697_ rfl
              refine gVv (nY := 2) (F := 2) (L := 44) (As := [.int (Int32.ofInt 17)]) (b := 344) (rest := []) hm_184 rfl hm_55 rfl rfl (fl_ob sc_344) rfl rfl rfl rfl rfl (by omega) (by omega) (mc_55s hG F696_ X g697_ (K) (17) ([58, 103, 111, 97, 108]) hgK rk700_ hkt (⟨by omega, by omega⟩) (⟨by omega, by omega⟩) (by decide) (kw_17 rk700_)) (fun _ _ h => False.elim h) ?_
              have b703_ : 0 ≤ F696_ 344 9 ∧ F696_ 344 9 ≤ 5 := gi_g g697_ rfl
              rintro A1_ ⟨F706_, hA_, g707_, s708_, c704_, c705_⟩
              subst hA_
              have g709_ : fs [(344, 344, 5, 5), (344, 344, 9, 10), (344, 344, 33, 33), (344, 344, 36, 36), (344, 344, 64, 64), (358, 358, 0, 100000), (360, 366, 0, 100000)] F F706_ := fs_tr g699_ s708_ rfl
              have rk710_ : rk K F706_ := rk_fs rk700_ s708_ (fs_rg rfl) rfl
              refine ga_aload_n (v := .ref 344) hm_184 rfl rfl rfl ?_
              refine ga_getr (b := 358) hm_184 rfl sc_344 rfl ?_
              refine fl_iconst hm_184 rfl ?_
              refine fl_iconst hm_184 rfl ?_
              refine fl_iast (z := 5) (v := 0) hm_184 rfl sc_358 (by omega) (by omega) (by omega) ?_
              refine ga_aload_n (v := .ref 344) hm_184 rfl rfl rfl ?_
              refine fl_iconst hm_184 rfl ?_
              refine fl_bipush hm_184 rfl rfl ?_
              obtain ⟨F711_, q712_⟩ : ∃ Fq_, Fq_ = (fl_u F706_ 358 (5 : Int).toNat 0) := ⟨_, rfl⟩
              rw [← q712_]
              have g713_ : gi F711_ := by rw [q712_]; exact gi_u (g707_) rfl (by omega) (by omega)
              have g714_ : fs [(344, 344, 5, 5), (344, 344, 9, 10), (344, 344, 33, 33), (344, 344, 36, 36), (344, 344, 64, 64), (358, 358, 0, 100000), (360, 366, 0, 100000)] F F711_ := by rw [q712_]; exact fs_u (g709_) rfl
              have rk715_ : rk K F711_ := by rw [q712_]; exact rk_u (rk710_) (by first | decide | exact nc_ rfl | omega) (by first | decide | exact nc_ rfl | omega)
              have e716_ : F711_ 344 5 = F706_ 344 5 := by rw [q712_]; exact fl_u_ne (by first | exact nc_ rfl | decide | omega)
              have b717_ : 0 ≤ F706_ 344 5 ∧ F706_ 344 5 ≤ 600 := gi_g g707_ rfl
              refine gVv (nY := 4) (F := 6) (L := 142) (As := [.int (Int32.ofInt 5), .int (Int32.ofInt 40)]) (b := 344) (rest := []) hm_184 rfl hm_175 rfl rfl (fl_ob sc_344) rfl rfl rfl rfl rfl (by omega) (by omega) (mc_175s hG F711_ X g713_ (K) (5) (40) (2) (l2_) (tl2_) (pl) (ps) hgK rk715_ hkt (⟨by omega, by omega⟩) ((by rw [q712_]; exact (trm_u (trm_fs (trm_fs (trm_fs (trm_fs (trm_fs (trm_fs (trm_fs ht2_.1 s515_ (by first | exact fs_rg rfl | exact fun r j hj => (fs_n (by omega) (fs_n (by omega) rfl)))) s658_ (by first | exact fs_rg rfl | exact fun r j hj => (fs_n (by omega) (fs_n (by omega) rfl)))) s668_ (by first | exact fs_rg rfl | exact fun r j hj => (fs_n (by omega) (fs_n (by omega) rfl)))) s678_ (by first | exact fs_rg rfl | exact fun r j hj => (fs_n (by omega) (fs_n (by omega) (fs_n (by omega) (fs_n (by omega) rfl)))))) s688_ (by first | exact fs_rg rfl | exact fun r j hj => (fs_n (by omega) (fs_n (by omega) rfl)))) s698_ (by first | exact fs_rg rfl | exact fun r j hj => (fs_n (by omega) (fs_n (by omega) rfl)))) s708_ (by first | exact fs_rg rfl | exact fun r j hj => (fs_n (by omega) (fs_n (by omega) rfl)))) (by first | decide | exact nc_ rfl | omega)))) (ht2_.2) (⟨by omega, by omega⟩) ((by rw [q712_]; exact (rpn_u (rpn_fs (rpn_fs (rpn_fs (rpn_fs (rpn_fs (rpn_fs (rpn_fs (rpn_fs (rpn_fs (rpn_fs (rpn_fs (rpn_fs (rpn_fs (rpn_fs (rpn_fs (rpn_fs (rpn_fs (rpn_fs (rpn_fs (rpn_fs (rpn_fs (rpn_fs (rpn_fs hpl s8_ (fun _ => (by first | exact fs_c rfl | exact (fs_n (by omega) (fs_n (by omega) rfl)))) (by first | exact fs_c rfl | exact (fs_n (by omega) (fs_n (by omega) rfl)))) s18_ (fun _ => (by first | exact fs_c rfl | exact (fs_n (by omega) (fs_n (by omega) rfl)))) (by first | exact fs_c rfl | exact (fs_n (by omega) (fs_n (by omega) rfl)))) s28_ (fun _ => (by first | exact fs_c rfl | exact (fs_n (by omega) (fs_n (by omega) rfl)))) (by first | exact fs_c rfl | exact (fs_n (by omega) (fs_n (by omega) rfl)))) s38_ (fun _ => (by first | exact fs_c rfl | exact (fs_n (by omega) (fs_n (by omega) rfl)))) (by first | exact fs_c rfl | exact (fs_n (by omega) (fs_n (by omega) rfl)))) s50_ (fun _ => (by first | exact fs_c rfl | exact (fs_n (by omega) rfl))) (by first | exact fs_c rfl | exact (fs_n (by omega) rfl))) s59_ (fun _ => (by first | exact fs_c rfl | exact (fs_n (by omega) rfl))) (by first | exact fs_c rfl | exact (fs_n (by omega) rfl))) s69_ (fun _ => (by first | exact fs_c rfl | exact (fs_n (by omega) (fs_n (by omega) rfl)))) (by first | exact fs_c rfl | exact (fs_n (by omega) (fs_n (by omega) rfl)))) s79_ (fun _ => (by first | exact fs_c rfl | exact (fs_n (by omega) (fs_n (by omega) rfl)))) (by first | exact fs_c rfl | exact (fs_n (by omega) (fs_n (by omega) rfl)))) s89_ (fun _ => (by first | exact fs_c rfl | exact (fs_n (by omega) (fs_n (by omega) rfl)))) (by first | exact fs_c rfl | exact (fs_n (by omega) (fs_n (by omega) rfl)))) s101_ (fun _ => (by first | exact fs_c rfl | exact (fs_n (by omega) rfl))) (by first | exact fs_c rfl | exact (fs_n (by omega) rfl))) s129_ (fun _ => (by first | exact fs_c rfl | exact (fs_n (by omega) rfl))) (by first | exact fs_c rfl | exact (fs_n (by omega) rfl))) s139_ (fun _ => (by first | exact fs_c rfl | exact (fs_n (by omega) (fs_n (by omega) rfl)))) (by first | exact fs_c rfl | exact (fs_n (by omega) (fs_n (by omega) rfl)))) s149_ (fun _ => (by first | exact fs_c rfl | exact (fs_n (by omega) (fs_n (by omega) rfl)))) (by first | exact fs_c rfl | exact (fs_n (by omega) (fs_n (by omega) rfl)))) s159_ (fun _ => (by first | exact fs_c rfl | exact (fs_n (by omega) (fs_n (by omega) rfl)))) (by first | exact fs_c rfl | exact (fs_n (by omega) (fs_n (by omega) rfl)))) hf_F1 (fun _ => (by first | exact fs_c rfl | exact (fs_n (by omega) (fs_n (by omega) (fs_n (by omega) (fs_n (by omega) rfl)))))) (by first | exact fs_c rfl | exact (fs_n (by omega) (fs_n (by omega) (fs_n (by omega) (fs_n (by omega) rfl)))))) s451_ (fun _ => (by first | exact fs_c rfl | exact (fs_n (by omega) (fs_n (by omega) (fs_n (by omega) (fs_n (by omega) rfl)))))) (by first | exact fs_c rfl | exact (fs_n (by omega) (fs_n (by omega) (fs_n (by omega) (fs_n (by omega) rfl)))))) s515_ (fun _ => (by first | exact fs_c rfl | exact (fs_n (by omega) (fs_n (by omega) rfl)))) (by first | exact fs_c rfl | exact (fs_n (by omega) (fs_n (by omega) rfl)))) s658_ (fun _ => (by first | exact fs_c rfl | exact (fs_n (by omega) (fs_n (by omega) rfl)))) (by first | exact fs_c rfl | exact (fs_n (by omega) (fs_n (by omega) rfl)))) s668_ (fun _ => (by first | exact fs_c rfl | exact (fs_n (by omega) (fs_n (by omega) rfl)))) (by first | exact fs_c rfl | exact (fs_n (by omega) (fs_n (by omega) rfl)))) s678_ (fun _ => (by first | exact fs_c rfl | exact (fs_n (by omega) (fs_n (by omega) (fs_n (by omega) (fs_n (by omega) rfl)))))) (by first | exact fs_c rfl | exact (fs_n (by omega) (fs_n (by omega) (fs_n (by omega) (fs_n (by omega) rfl)))))) s688_ (fun _ => (by first | exact fs_c rfl | exact (fs_n (by omega) (fs_n (by omega) rfl)))) (by first | exact fs_c rfl | exact (fs_n (by omega) (fs_n (by omega) rfl)))) s698_ (fun _ => (by first | exact fs_c rfl | exact (fs_n (by omega) (fs_n (by omega) rfl)))) (by first | exact fs_c rfl | exact (fs_n (by omega) (fs_n (by omega) rfl)))) s708_ (fun _ => (by first | exact fs_c rfl | exact (fs_n (by omega) (fs_n (by omega) rfl)))) (by first | exact fs_c rfl | exact (fs_n (by omega) (fs_n (by omega) rfl)))) (by first | decide | exact nc_ rfl | omega) (by first | decide | exact nc_ rfl | omega)))) (⟨(by rw [q712_]; exact (rprd_u (rprd_fs (rprd_fs (rprd_fs (rprd_fs (rprd_fs (rprd_fs (rprd_fs (rprd_fs (rprd_fs (rprd_fs (rprd_fs (rprd_fs (rprd_fs (rprd_fs (rprd_fs (rprd_fs (rprd_fs (rprd_fs (rprd_fs (rprd_fs (rprd_fs (rprd_fs (rprd_fs hps.1 s8_ (by first | exact fs_rg rfl | exact fun r j hj => (fs_n (by omega) (fs_n (by omega) rfl)))) s18_ (by first | exact fs_rg rfl | exact fun r j hj => (fs_n (by omega) (fs_n (by omega) rfl)))) s28_ (by first | exact fs_rg rfl | exact fun r j hj => (fs_n (by omega) (fs_n (by omega) rfl)))) s38_ (by first | exact fs_rg rfl | exact fun r j hj => (fs_n (by omega) (fs_n (by omega) rfl)))) s50_ (by first | exact fs_rg rfl | exact fun r j hj => (fs_n (by omega) rfl))) s59_ (by first | exact fs_rg rfl | exact fun r j hj => (fs_n (by omega) rfl))) s69_ (by first | exact fs_rg rfl | exact fun r j hj => (fs_n (by omega) (fs_n (by omega) rfl)))) s79_ (by first | exact fs_rg rfl | exact fun r j hj => (fs_n (by omega) (fs_n (by omega) rfl)))) s89_ (by first | exact fs_rg rfl | exact fun r j hj => (fs_n (by omega) (fs_n (by omega) rfl)))) s101_ (by first | exact fs_rg rfl | exact fun r j hj => (fs_n (by omega) rfl))) s129_ (by first | exact fs_rg rfl | exact fun r j hj => (fs_n (by omega) rfl))) s139_ (by first | exact fs_rg rfl | exact fun r j hj => (fs_n (by omega) (fs_n (by omega) rfl)))) s149_ (by first | exact fs_rg rfl | exact fun r j hj => (fs_n (by omega) (fs_n (by omega) rfl)))) s159_ (by first | exact fs_rg rfl | exact fun r j hj => (fs_n (by omega) (fs_n (by omega) rfl)))) hf_F1 (by first | exact fs_rg rfl | exact fun r j hj => (fs_n (by omega) (fs_n (by omega) (fs_n (by omega) (fs_n (by omega) rfl)))))) s451_ (by first | exact fs_rg rfl | exact fun r j hj => (fs_n (by omega) (fs_n (by omega) (fs_n (by omega) (fs_n (by omega) rfl)))))) s515_ (by first | exact fs_rg rfl | exact fun r j hj => (fs_n (by omega) (fs_n (by omega) rfl)))) s658_ (by first | exact fs_rg rfl | exact fun r j hj => (fs_n (by omega) (fs_n (by omega) rfl)))) s668_ (by first | exact fs_rg rfl | exact fun r j hj => (fs_n (by omega) (fs_n (by omega) rfl)))) s678_ (by first | exact fs_rg rfl | exact fun r j hj => (fs_n (by omega) (fs_n (by omega) (fs_n (by omega) (fs_n (by omega) rfl)))))) s688_ (by first | exact fs_rg rfl | exact fun r j hj => (fs_n (by omega) (fs_n (by omega) rfl)))) s698_ (by first | exact fs_rg rfl | exact fun r j hj => (fs_n (by omega) (fs_n (by omega) rfl)))) s708_ (by first | exact fs_rg rfl | exact fun r j hj => (fs_n (by omega) (fs_n (by omega) rfl)))) (by first | decide | exact nc_ rfl | omega))), hps.2⟩) (⟨by omega, by omega⟩) (Or.inr (by omega)) (by rw [q712_]; exact fl_u_eq)) (fun _ _ h => False.elim h) ?_
              have e719_ : F711_ 344 9 = F706_ 344 9 := by rw [q712_]; exact fl_u_ne (by first | exact nc_ rfl | decide | omega)
              have b720_ : 0 ≤ F706_ 344 9 ∧ F706_ 344 9 ≤ 5 := gi_g g707_ rfl
              rintro A1_ ⟨F723_, hA_, g724_, s725_, c721_, c722_⟩
              subst hA_
              have g726_ : fs [(344, 344, 5, 5), (344, 344, 9, 10), (344, 344, 33, 33), (344, 344, 36, 36), (344, 344, 64, 64), (358, 358, 0, 100000), (360, 366, 0, 100000)] F F723_ := fs_tr g714_ s725_ rfl
              have rk727_ : rk K F723_ := rk_fs rk715_ s725_ (fs_rg rfl) rfl
              try simp only [e719_] at c721_
              refine ga_aload_n (v := .ref 344) hm_184 rfl rfl rfl ?_
              refine fl_bipush hm_184 rfl rfl ?_
              have b728_ : 0 ≤ F723_ 344 5 ∧ F723_ 344 5 ≤ 600 := gi_g g724_ rfl
              refine gVv (nY := 2) (F := 2) (L := 41) (As := [.int (Int32.ofInt 41)]) (b := 344) (rest := []) hm_184 rfl hm_51 rfl rfl (fl_ob sc_344) rfl rfl rfl rfl rfl (by omega) (by omega) (mc_51s hG F723_ X g724_ (K) (41) (1) hgK rk727_ hkt (⟨by omega, by omega⟩) (by omega) (by omega)) (fun _ _ h => False.elim h) ?_
              have b730_ : 0 ≤ F723_ 344 9 ∧ F723_ 344 9 ≤ 5 := gi_g g724_ rfl
              rintro A1_ ⟨F733_, hA_, g734_, s735_, c731_, c732_⟩
              subst hA_
              have g736_ : fs [(344, 344, 5, 5), (344, 344, 9, 10), (344, 344, 33, 33), (344, 344, 36, 36), (344, 344, 64, 64), (358, 358, 0, 100000), (360, 366, 0, 100000)] F F733_ := fs_tr g726_ s735_ rfl
              have rk737_ : rk K F733_ := rk_fs rk727_ s735_ (fs_rg rfl) rfl
              refine ga_aload_n (v := .ref 344) hm_184 rfl rfl rfl ?_
              refine fl_bipush hm_184 rfl rfl ?_
              have b738_ : 0 ≤ F733_ 344 5 ∧ F733_ 344 5 ≤ 600 := gi_g g734_ rfl
              refine gVv (nY := 2) (F := 2) (L := 41) (As := [.int (Int32.ofInt 41)]) (b := 344) (rest := []) hm_184 rfl hm_51 rfl rfl (fl_ob sc_344) rfl rfl rfl rfl rfl (by omega) (by omega) (mc_51s hG F733_ X g734_ (K) (41) (1) hgK rk737_ hkt (⟨by omega, by omega⟩) (by omega) (by omega)) (fun _ _ h => False.elim h) ?_
              have b740_ : 0 ≤ F733_ 344 9 ∧ F733_ 344 9 ≤ 5 := gi_g g734_ rfl
              rintro A1_ ⟨F743_, hA_, g744_, s745_, c741_, c742_⟩
              subst hA_
              have g746_ : fs [(344, 344, 5, 5), (344, 344, 9, 10), (344, 344, 33, 33), (344, 344, 36, 36), (344, 344, 64, 64), (358, 358, 0, 100000), (360, 366, 0, 100000)] F F743_ := fs_tr g736_ s745_ rfl
              have rk747_ : rk K F743_ := rk_fs rk737_ s745_ (fs_rg rfl) rfl
              refine ga_aload_n (v := .ref 344) hm_184 rfl rfl rfl ?_
              refine gIi (nY := 1) (F := 0) (L := 0) (As := []) (b := 344) (rest := []) hm_184 rfl hm_59 rfl rfl (fl_ob sc_344) rfl rfl rfl rfl rfl (by omega) (by omega) ?_
              intro f748_ l749_ h750_ h751_
              show fl_R xi_ms 59 f748_ l749_ 0 [(0, .ref 344)] [] _ _
              refine ga_aload_n (v := .ref 344) hm_59 rfl rfl rfl ?_
              have b752_ : 0 ≤ F743_ 344 9 ∧ F743_ 344 9 ≤ 5 := gi_g g744_ rfl
              refine ga_geti (z := F743_ 344 9) hm_59 rfl sc_344 rfl (rfl) ?_
              refine fl_if_le (a := F743_ 344 9) hm_59 rfl ⟨by omega, by omega⟩ (fun h753_ => ?_) (fun h754_ => ?_)
              ·
                refine fl_iconst hm_59 rfl ?_
                refine gr_i hm_59 rfl rfl (ga_nb (by omega)) ?_
                clear h750_ h751_ f748_ l749_
                refine fl_if_ne hm_184 rfl ⟨by omega, by omega⟩ (fun h => absurd h (by omega)) (fun _ => ?_)
                refine ga_aload_n (v := .ref 344) hm_184 rfl rfl rfl ?_
                have b755_ : 0 ≤ F743_ 344 5 ∧ F743_ 344 5 ≤ 600 := gi_g g744_ rfl
                refine ga_geti (z := F743_ 344 5) hm_184 rfl sc_344 rfl (rfl) ?_
                refine ga_aload_n (v := .ref 344) hm_184 rfl rfl rfl ?_
                have e756_ : F743_ 344 4 = K 1 6 - 1 := rk747_.2.1
                refine ga_geti (z := K 1 6 - 1) hm_184 rfl sc_344 rfl (e756_) ?_
                refine fl_icmp_ge (a := F743_ 344 5) (b := K 1 6 - 1) hm_184 rfl ⟨by omega, by omega⟩ ⟨by omega, by omega⟩ (fun h757_ => ?_) (fun h758_ => ?_)
                ·
                  refine gr_v hm_184 rfl rfl ?_
                  exact ⟨F743_, rfl, g744_, g746_, (⟨by omega, by omega⟩)⟩
                refine ga_aload_n (v := .ref 344) hm_184 rfl rfl rfl ?_
                refine fl_iconst hm_184 rfl ?_
                refine gVv (nY := 2) (F := 0) (L := 0) (As := [.int (Int32.ofInt 1)]) (b := 344) (rest := []) hm_184 rfl hm_54 rfl rfl (fl_ob sc_344) rfl rfl rfl rfl rfl (by omega) (by omega) (mc_54 hG F743_ X g744_ (K) (1) hgK rk747_ hkt (⟨by omega, by omega⟩) (⟨by omega, by omega⟩)) (fun _ _ h => False.elim h) ?_
                have b760_ : 0 ≤ F743_ 344 10 ∧ F743_ 344 10 ≤ 600 := gi_g g744_ rfl
                rintro A1_ ⟨F764_, hA_, g765_, s766_, c761_, c762_, c763_⟩
                subst hA_
                have g767_ : fs [(344, 344, 5, 5), (344, 344, 9, 10), (344, 344, 33, 33), (344, 344, 36, 36), (344, 344, 64, 64), (358, 358, 0, 100000), (360, 366, 0, 100000)] F F764_ := fs_tr g746_ s766_ rfl
                have rk768_ : rk K F764_ := rk_fs rk747_ s766_ (fs_rg rfl) rfl
                have c762_s := c762_.1 (by omega)
                clear c762_
                refine gr_v hm_184 rfl rfl ?_
                have e769_ : F764_ 344 5 = F743_ 344 5 := (s766_ 344 5 rfl).trans (rfl)
                exact ⟨F764_, rfl, g765_, g767_, (⟨by omega, by omega⟩)⟩
              refine fl_iconst hm_59 rfl ?_
              refine fl_goto hm_59 rfl ?_
              refine gr_i hm_59 rfl rfl (ga_nb (by omega)) ?_
              clear h750_ h751_ f748_ l749_
              refine fl_if_ne hm_184 rfl ⟨by omega, by omega⟩ (fun _ => ?_) (fun h => absurd (by omega) h)
              refine gr_v hm_184 rfl rfl ?_
              have b770_ : 0 ≤ F743_ 344 5 ∧ F743_ 344 5 ≤ 600 := gi_g g744_ rfl
              exact ⟨F743_, rfl, g744_, g746_, (⟨by omega, by omega⟩)⟩
            exfalso; omega
          exfalso; omega
        have b771_ : 0 ≤ F157_ 344 5 ∧ F157_ 344 5 ≤ 600 := gi_g g158_ rfl
        have b772_ : 0 ≤ K 1 6 ∧ K 1 6 ≤ 601 := gi_g hgK rfl
        have e773_ : F6_ 5 2 = F 5 2 := (s8_ 5 2 rfl).trans (rfl)
        have e774_ : F16_ 5 2 = F 5 2 := (s18_ 5 2 rfl).trans (e773_)
        have e775_ : F26_ 5 2 = F 5 2 := (s28_ 5 2 rfl).trans (e774_)
        have e776_ : F36_ 5 2 = F 5 2 := (s38_ 5 2 rfl).trans (e775_)
        have e777_ : F48_ 5 2 = F 5 2 := (s50_ 5 2 rfl).trans (e776_)
        have e778_ : F57_ 5 2 = F 5 2 := (s59_ 5 2 rfl).trans (e777_)
        have e779_ : F67_ 5 2 = F 5 2 := (s69_ 5 2 rfl).trans (e778_)
        have e780_ : F77_ 5 2 = F 5 2 := (s79_ 5 2 rfl).trans (e779_)
        have e781_ : F87_ 5 2 = F 5 2 := (s89_ 5 2 rfl).trans (e780_)
        have e782_ : F99_ 5 2 = F 5 2 := (s101_ 5 2 rfl).trans (e781_)
        have e783_ : F127_ 5 2 = F 5 2 := (s129_ 5 2 rfl).trans (e782_)
        have e784_ : F137_ 5 2 = F 5 2 := (s139_ 5 2 rfl).trans (e783_)
        have e785_ : F147_ 5 2 = F 5 2 := (s149_ 5 2 rfl).trans (e784_)
        have e786_ : F157_ 5 2 = F 5 2 := (s159_ 5 2 rfl).trans (e785_)
        have b787_ : 0 ≤ F 5 2 ∧ F 5 2 ≤ 600 := gi_g hgi rfl
        have e788_ : F6_ 344 33 = F 344 33 := (s8_ 344 33 rfl).trans (rfl)
        have e789_ : F16_ 344 33 = F 344 33 := (s18_ 344 33 rfl).trans (e788_)
        have e790_ : F26_ 344 33 = F 344 33 := (s28_ 344 33 rfl).trans (e789_)
        have e791_ : F36_ 344 33 = F 344 33 := (s38_ 344 33 rfl).trans (e790_)
        have e792_ : F48_ 344 33 = F 344 33 := (s50_ 344 33 rfl).trans (e791_)
        have e793_ : F57_ 344 33 = F 344 33 := (s59_ 344 33 rfl).trans (e792_)
        have e794_ : F67_ 344 33 = F 344 33 := (s69_ 344 33 rfl).trans (e793_)
        have e795_ : F77_ 344 33 = F 344 33 := (s79_ 344 33 rfl).trans (e794_)
        have e796_ : F87_ 344 33 = F 344 33 := (s89_ 344 33 rfl).trans (e795_)
        have e797_ : F99_ 344 33 = F 344 33 := (s101_ 344 33 rfl).trans (e796_)
        have e798_ : F127_ 344 33 = F 344 33 := (s129_ 344 33 rfl).trans (e797_)
        have e799_ : F137_ 344 33 = F 344 33 := (s139_ 344 33 rfl).trans (e798_)
        have e800_ : F147_ 344 33 = F 344 33 := (s149_ 344 33 rfl).trans (e799_)
        have e801_ : F157_ 344 33 = F 344 33 := (s159_ 344 33 rfl).trans (e800_)
        have b802_ : 0 ≤ F 344 33 ∧ F 344 33 ≤ 6 := gi_g hgi rfl
        exact L165_ _ (1) ([]) ([]) F157_ rfl g158_ fs_refl (by omega) (⟨by omega, by omega⟩) (⟨by omega, by omega⟩) (⟨(trm_fs (trm_fs (trm_fs (trm_fs (trm_fs (trm_fs (trm_fs (trm_fs (trm_fs (trm_fs (trm_fs (trm_fs (trm_fs (trm_fs (tr5_0 h33) s8_ (by first | exact fs_rg rfl | exact fun r j hj => (fs_n (by omega) (fs_n (by omega) rfl)))) s18_ (by first | exact fs_rg rfl | exact fun r j hj => (fs_n (by omega) (fs_n (by omega) rfl)))) s28_ (by first | exact fs_rg rfl | exact fun r j hj => (fs_n (by omega) (fs_n (by omega) rfl)))) s38_ (by first | exact fs_rg rfl | exact fun r j hj => (fs_n (by omega) (fs_n (by omega) rfl)))) s50_ (by first | exact fs_rg rfl | exact fun r j hj => (fs_n (by omega) rfl))) s59_ (by first | exact fs_rg rfl | exact fun r j hj => (fs_n (by omega) rfl))) s69_ (by first | exact fs_rg rfl | exact fun r j hj => (fs_n (by omega) (fs_n (by omega) rfl)))) s79_ (by first | exact fs_rg rfl | exact fun r j hj => (fs_n (by omega) (fs_n (by omega) rfl)))) s89_ (by first | exact fs_rg rfl | exact fun r j hj => (fs_n (by omega) (fs_n (by omega) rfl)))) s101_ (by first | exact fs_rg rfl | exact fun r j hj => (fs_n (by omega) rfl))) s129_ (by first | exact fs_rg rfl | exact fun r j hj => (fs_n (by omega) rfl))) s139_ (by first | exact fs_rg rfl | exact fun r j hj => (fs_n (by omega) (fs_n (by omega) rfl)))) s149_ (by first | exact fs_rg rfl | exact fun r j hj => (fs_n (by omega) (fs_n (by omega) rfl)))) s159_ (by first | exact fs_rg rfl | exact fun r j hj => (fs_n (by omega) (fs_n (by omega) rfl)))), rfl⟩)
      refine fl_iconst hm_184 rfl ?_
      refine ga_istore_n (lv2 := [(3, .int (Int32.ofInt 1)), (1, .long (Int64.ofInt z93_)), (0, .ref 344)]) hm_184 rfl (Nat.le_of_ble_eq_true rfl) rfl ?_
      refine ga_iload_n (z := 1) hm_184 rfl rfl ?_
      refine fl_if_eq hm_184 rfl ⟨by omega, by omega⟩ (fun h => absurd h (by omega)) (fun _ => ?_)
      refine ga_aload_n (v := .ref 344) hm_184 rfl rfl rfl ?_
      refine gIi (nY := 1) (F := 0) (L := 0) (As := []) (b := 344) (rest := []) hm_184 rfl hm_59 rfl rfl (fl_ob sc_344) rfl rfl rfl rfl rfl (by omega) (by omega) ?_
      intro f803_ l804_ h805_ h806_
      show fl_R xi_ms 59 f803_ l804_ 0 [(0, .ref 344)] [] _ _
      refine ga_aload_n (v := .ref 344) hm_59 rfl rfl rfl ?_
      refine ga_geti (z := F157_ 344 9) hm_59 rfl sc_344 rfl (rfl) ?_
      refine fl_if_le (a := F157_ 344 9) hm_59 rfl ⟨by omega, by omega⟩ (fun h807_ => ?_) (fun h808_ => ?_)
      · exfalso; omega
      refine fl_iconst hm_59 rfl ?_
      refine fl_goto hm_59 rfl ?_
      refine gr_i hm_59 rfl rfl (ga_nb (by omega)) ?_
      clear h805_ h806_ f803_ l804_
      refine fl_if_ne hm_184 rfl ⟨by omega, by omega⟩ (fun _ => ?_) (fun h => absurd (by omega) h)
      refine ga_aload_n (v := .ref 344) hm_184 rfl rfl rfl ?_
      refine fl_bipush hm_184 rfl rfl ?_
      have b809_ : 0 ≤ F157_ 344 5 ∧ F157_ 344 5 ≤ 600 := gi_g g158_ rfl
      refine gVv (nY := 2) (F := 2) (L := 41) (As := [.int (Int32.ofInt 41)]) (b := 344) (rest := []) hm_184 rfl hm_51 rfl rfl (fl_ob sc_344) rfl rfl rfl rfl rfl (by omega) (by omega) (mc_51s hG F157_ X g158_ (K) (41) (1) hgK rk161_ hkt (⟨by omega, by omega⟩) (by omega) (by omega)) (fun _ _ h => False.elim h) ?_
      rintro A1_ ⟨F813_, hA_, g814_, s815_, c811_, c812_⟩
      subst hA_
      have g816_ : fs [(344, 344, 5, 5), (344, 344, 9, 10), (344, 344, 33, 33), (344, 344, 36, 36), (344, 344, 64, 64), (358, 358, 0, 100000), (360, 366, 0, 100000)] F F813_ := fs_tr g160_ s815_ rfl
      have rk817_ : rk K F813_ := rk_fs rk161_ s815_ (fs_rg rfl) rfl
      refine ga_aload_n (v := .ref 344) hm_184 rfl rfl rfl ?_
      refine gIi (nY := 1) (F := 0) (L := 0) (As := []) (b := 344) (rest := []) hm_184 rfl hm_59 rfl rfl (fl_ob sc_344) rfl rfl rfl rfl rfl (by omega) (by omega) ?_
      intro f818_ l819_ h820_ h821_
      show fl_R xi_ms 59 f818_ l819_ 0 [(0, .ref 344)] [] _ _
      refine ga_aload_n (v := .ref 344) hm_59 rfl rfl rfl ?_
      have b822_ : 0 ≤ F813_ 344 9 ∧ F813_ 344 9 ≤ 5 := gi_g g814_ rfl
      refine ga_geti (z := F813_ 344 9) hm_59 rfl sc_344 rfl (rfl) ?_
      refine fl_if_le (a := F813_ 344 9) hm_59 rfl ⟨by omega, by omega⟩ (fun h823_ => ?_) (fun h824_ => ?_)
      ·
        refine fl_iconst hm_59 rfl ?_
        refine gr_i hm_59 rfl rfl (ga_nb (by omega)) ?_
        clear h820_ h821_ f818_ l819_
        refine fl_if_ne hm_184 rfl ⟨by omega, by omega⟩ (fun h => absurd h (by omega)) (fun _ => ?_)
        refine ga_aload_n (v := .ref 344) hm_184 rfl rfl rfl ?_
        refine gVv (nY := 6) (F := 1) (L := 22) (As := []) (b := 344) (rest := []) hm_184 rfl hm_171 rfl rfl (fl_ob sc_344) rfl rfl rfl rfl rfl (by omega) (by omega) (mc_171 hG F813_ X g814_) (fun _ _ h => False.elim h) ?_
        rintro A1_ ⟨F826_, hA_, g827_, s828_⟩
        subst hA_
        have g829_ : fs [(344, 344, 5, 5), (344, 344, 9, 10), (344, 344, 33, 33), (344, 344, 36, 36), (344, 344, 64, 64), (358, 358, 0, 100000), (360, 366, 0, 100000)] F F826_ := fs_tr g816_ s828_ rfl
        have rk830_ : rk K F826_ := rk_fs rk817_ s828_ (fs_rg rfl) rfl
        refine ga_aload_n (v := .ref 344) hm_184 rfl rfl rfl ?_
        refine fl_bipush hm_184 rfl rfl ?_
        have e831_ : F826_ 344 5 = F813_ 344 5 := (s828_ 344 5 rfl).trans (rfl)
        have b832_ : 0 ≤ F813_ 344 5 ∧ F813_ 344 5 ≤ 600 := gi_g g814_ rfl
        refine gVv (nY := 2) (F := 2) (L := 41) (As := [.int (Int32.ofInt 40)]) (b := 344) (rest := []) hm_184 rfl hm_51 rfl rfl (fl_ob sc_344) rfl rfl rfl rfl rfl (by omega) (by omega) (mc_51s hG F826_ X g827_ (K) (40) (0) hgK rk830_ hkt (⟨by omega, by omega⟩) (by omega) (by omega)) (fun _ _ h => False.elim h) ?_
        have e834_ : F826_ 344 9 = F813_ 344 9 := (s828_ 344 9 rfl).trans (rfl)
        rintro A1_ ⟨F837_, hA_, g838_, s839_, c835_, c836_⟩
        subst hA_
        have g840_ : fs [(344, 344, 5, 5), (344, 344, 9, 10), (344, 344, 33, 33), (344, 344, 36, 36), (344, 344, 64, 64), (358, 358, 0, 100000), (360, 366, 0, 100000)] F F837_ := fs_tr g829_ s839_ rfl
        have rk841_ : rk K F837_ := rk_fs rk830_ s839_ (fs_rg rfl) rfl
        try simp only [e834_] at c835_
        refine ga_aload_n (v := .ref 344) hm_184 rfl rfl rfl ?_
        refine fl_bipush hm_184 rfl rfl ?_
        have b842_ : 0 ≤ F837_ 344 5 ∧ F837_ 344 5 ≤ 600 := gi_g g838_ rfl
        refine gVv (nY := 2) (F := 2) (L := 44) (As := [.int (Int32.ofInt 16)]) (b := 344) (rest := []) hm_184 rfl hm_55 rfl rfl (fl_ob sc_344) rfl rfl rfl rfl rfl (by omega) (by omega) (mc_55s hG F837_ X g838_ (K) (16) ([58, 105, 110, 105, 116]) hgK rk841_ hkt (⟨by omega, by omega⟩) (⟨by omega, by omega⟩) (by decide) (kw_16 rk841_)) (fun _ _ h => False.elim h) ?_
        have b844_ : 0 ≤ F837_ 344 9 ∧ F837_ 344 9 ≤ 5 := gi_g g838_ rfl
        rintro A1_ ⟨F847_, hA_, g848_, s849_, c845_, c846_⟩
        subst hA_
        have g850_ : fs [(344, 344, 5, 5), (344, 344, 9, 10), (344, 344, 33, 33), (344, 344, 36, 36), (344, 344, 64, 64), (358, 358, 0, 100000), (360, 366, 0, 100000)] F F847_ := fs_tr g840_ s849_ rfl
        have rk851_ : rk K F847_ := rk_fs rk841_ s849_ (fs_rg rfl) rfl
        refine ga_aload_n (v := .ref 344) hm_184 rfl rfl rfl ?_
        have b852_ : 0 ≤ F847_ 344 5 ∧ F847_ 344 5 ≤ 600 := gi_g g848_ rfl
        refine gVv (nY := 2) (F := 5) (L := 117) (As := []) (b := 344) (rest := []) hm_184 rfl hm_178 rfl rfl (fl_ob sc_344) rfl rfl rfl rfl rfl (by omega) (by omega) (mc_178 hG F847_ X g848_ (K) ([]) ([]) (pl) (ps) hgK rk851_ hkt (⟨by omega, by omega⟩) ((trm_fs (trm_fs (trm_fs (trm_fs (trm_fs (trm_fs (trm_fs (trm_fs (trm_fs (trm_fs (trm_fs (trm_fs (trm_fs (trm_fs (trm_fs (trm_fs (trm_fs (trm_fs (tr5_0 h33) s8_ (by first | exact fs_rg rfl | exact fun r j hj => (fs_n (by omega) (fs_n (by omega) rfl)))) s18_ (by first | exact fs_rg rfl | exact fun r j hj => (fs_n (by omega) (fs_n (by omega) rfl)))) s28_ (by first | exact fs_rg rfl | exact fun r j hj => (fs_n (by omega) (fs_n (by omega) rfl)))) s38_ (by first | exact fs_rg rfl | exact fun r j hj => (fs_n (by omega) (fs_n (by omega) rfl)))) s50_ (by first | exact fs_rg rfl | exact fun r j hj => (fs_n (by omega) rfl))) s59_ (by first | exact fs_rg rfl | exact fun r j hj => (fs_n (by omega) rfl))) s69_ (by first | exact fs_rg rfl | exact fun r j hj => (fs_n (by omega) (fs_n (by omega) rfl)))) s79_ (by first | exact fs_rg rfl | exact fun r j hj => (fs_n (by omega) (fs_n (by omega) rfl)))) s89_ (by first | exact fs_rg rfl | exact fun r j hj => (fs_n (by omega) (fs_n (by omega) rfl)))) s101_ (by first | exact fs_rg rfl | exact fun r j hj => (fs_n (by omega) rfl))) s129_ (by first | exact fs_rg rfl | exact fun r j hj => (fs_n (by omega) rfl))) s139_ (by first | exact fs_rg rfl | exact fun r j hj => (fs_n (by omega) (fs_n (by omega) rfl)))) s149_ (by first | exact fs_rg rfl | exact fun r j hj => (fs_n (by omega) (fs_n (by omega) rfl)))) s159_ (by first | exact fs_rg rfl | exact fun r j hj => (fs_n (by omega) (fs_n (by omega) rfl)))) s815_ (by first | exact fs_rg rfl | exact fun r j hj => (fs_n (by omega) (fs_n (by omega) rfl)))) s828_ (by first | exact fs_rg rfl | exact fun r j hj => (fs_n (by omega) (fs_n (by omega) rfl)))) s839_ (by first | exact fs_rg rfl | exact fun r j hj => (fs_n (by omega) (fs_n (by omega) rfl)))) s849_ (by first | exact fs_rg rfl | exact fun r j hj => (fs_n (by omega) (fs_n (by omega) rfl))))) (rfl) ((rpn_fs (rpn_fs (rpn_fs (rpn_fs (rpn_fs (rpn_fs (rpn_fs (rpn_fs (rpn_fs (rpn_fs (rpn_fs (rpn_fs (rpn_fs (rpn_fs (rpn_fs (rpn_fs (rpn_fs (rpn_fs hpl s8_ (fun _ => (by first | exact fs_c rfl | exact (fs_n (by omega) (fs_n (by omega) rfl)))) (by first | exact fs_c rfl | exact (fs_n (by omega) (fs_n (by omega) rfl)))) s18_ (fun _ => (by first | exact fs_c rfl | exact (fs_n (by omega) (fs_n (by omega) rfl)))) (by first | exact fs_c rfl | exact (fs_n (by omega) (fs_n (by omega) rfl)))) s28_ (fun _ => (by first | exact fs_c rfl | exact (fs_n (by omega) (fs_n (by omega) rfl)))) (by first | exact fs_c rfl | exact (fs_n (by omega) (fs_n (by omega) rfl)))) s38_ (fun _ => (by first | exact fs_c rfl | exact (fs_n (by omega) (fs_n (by omega) rfl)))) (by first | exact fs_c rfl | exact (fs_n (by omega) (fs_n (by omega) rfl)))) s50_ (fun _ => (by first | exact fs_c rfl | exact (fs_n (by omega) rfl))) (by first | exact fs_c rfl | exact (fs_n (by omega) rfl))) s59_ (fun _ => (by first | exact fs_c rfl | exact (fs_n (by omega) rfl))) (by first | exact fs_c rfl | exact (fs_n (by omega) rfl))) s69_ (fun _ => (by first | exact fs_c rfl | exact (fs_n (by omega) (fs_n (by omega) rfl)))) (by first | exact fs_c rfl | exact (fs_n (by omega) (fs_n (by omega) rfl)))) s79_ (fun _ => (by first | exact fs_c rfl | exact (fs_n (by omega) (fs_n (by omega) rfl)))) (by first | exact fs_c rfl | exact (fs_n (by omega) (fs_n (by omega) rfl)))) s89_ (fun _ => (by first | exact fs_c rfl | exact (fs_n (by omega) (fs_n (by omega) rfl)))) (by first | exact fs_c rfl | exact (fs_n (by omega) (fs_n (by omega) rfl)))) s101_ (fun _ => (by first | exact fs_c rfl | exact (fs_n (by omega) rfl))) (by first | exact fs_c rfl | exact (fs_n (by omega) rfl))) s129_ (fun _ => (by first | exact fs_c rfl | exact (fs_n (by omega) rfl))) (by first | exact fs_c rfl | exact (fs_n (by omega) rfl))) s139_ (fun _ => (by first | exact fs_c rfl | exact (fs_n (by omega) (fs_n (by omega) rfl)))) (by first | exact fs_c rfl | exact (fs_n (by omega) (fs_n (by omega) rfl)))) s149_ (fun _ => (by first | exact fs_c rfl | exact (fs_n (by omega) (fs_n (by omega) rfl)))) (by first | exact fs_c rfl | exact (fs_n (by omega) (fs_n (by omega) rfl)))) s159_ (fun _ => (by first | exact fs_c rfl | exact (fs_n (by omega) (fs_n (by omega) rfl)))) (by first | exact fs_c rfl | exact (fs_n (by omega) (fs_n (by omega) rfl)))) s815_ (fun _ => (by first | exact fs_c rfl | exact (fs_n (by omega) (fs_n (by omega) rfl)))) (by first | exact fs_c rfl | exact (fs_n (by omega) (fs_n (by omega) rfl)))) s828_ (fun _ => (by first | exact fs_c rfl | exact (fs_n (by omega) (fs_n (by omega) rfl)))) (by first | exact fs_c rfl | exact (fs_n (by omega) (fs_n (by omega) rfl)))) s839_ (fun _ => (by first | exact fs_c rfl | exact (fs_n (by omega) (fs_n (by omega) rfl)))) (by first | exact fs_c rfl | exact (fs_n (by omega) (fs_n (by omega) rfl)))) s849_ (fun _ => (by first | exact fs_c rfl | exact (fs_n (by omega) (fs_n (by omega) rfl)))) (by first | exact fs_c rfl | exact (fs_n (by omega) (fs_n (by omega) rfl))))) (⟨(rprd_fs (rprd_fs (rprd_fs (rprd_fs (rprd_fs (rprd_fs (rprd_fs (rprd_fs (rprd_fs (rprd_fs (rprd_fs (rprd_fs (rprd_fs (rprd_fs (rprd_fs (rprd_fs (rprd_fs (rprd_fs hps.1 s8_ (by first | exact fs_rg rfl | exact fun r j hj => (fs_n (by omega) (fs_n (by omega) rfl)))) s18_ (by first | exact fs_rg rfl | exact fun r j hj => (fs_n (by omega) (fs_n (by omega) rfl)))) s28_ (by first | exact fs_rg rfl | exact fun r j hj => (fs_n (by omega) (fs_n (by omega) rfl)))) s38_ (by first | exact fs_rg rfl | exact fun r j hj => (fs_n (by omega) (fs_n (by omega) rfl)))) s50_ (by first | exact fs_rg rfl | exact fun r j hj => (fs_n (by omega) rfl))) s59_ (by first | exact fs_rg rfl | exact fun r j hj => (fs_n (by omega) rfl))) s69_ (by first | exact fs_rg rfl | exact fun r j hj => (fs_n (by omega) (fs_n (by omega) rfl)))) s79_ (by first | exact fs_rg rfl | exact fun r j hj => (fs_n (by omega) (fs_n (by omega) rfl)))) s89_ (by first | exact fs_rg rfl | exact fun r j hj => (fs_n (by omega) (fs_n (by omega) rfl)))) s101_ (by first | exact fs_rg rfl | exact fun r j hj => (fs_n (by omega) rfl))) s129_ (by first | exact fs_rg rfl | exact fun r j hj => (fs_n (by omega) rfl))) s139_ (by first | exact fs_rg rfl | exact fun r j hj => (fs_n (by omega) (fs_n (by omega) rfl)))) s149_ (by first | exact fs_rg rfl | exact fun r j hj => (fs_n (by omega) (fs_n (by omega) rfl)))) s159_ (by first | exact fs_rg rfl | exact fun r j hj => (fs_n (by omega) (fs_n (by omega) rfl)))) s815_ (by first | exact fs_rg rfl | exact fun r j hj => (fs_n (by omega) (fs_n (by omega) rfl)))) s828_ (by first | exact fs_rg rfl | exact fun r j hj => (fs_n (by omega) (fs_n (by omega) rfl)))) s839_ (by first | exact fs_rg rfl | exact fun r j hj => (fs_n (by omega) (fs_n (by omega) rfl)))) s849_ (by first | exact fs_rg rfl | exact fun r j hj => (fs_n (by omega) (fs_n (by omega) rfl)))), hps.2⟩)) (fun _ _ h => False.elim h) ?_
        have b854_ : 0 ≤ F847_ 344 9 ∧ F847_ 344 9 ≤ 5 := gi_g g848_ rfl
        rintro A1_ ⟨F857_, hA_, g858_, s859_, c855_, c856_⟩
        subst hA_
        have g860_ : fs [(344, 344, 5, 5), (344, 344, 9, 10), (344, 344, 33, 33), (344, 344, 36, 36), (344, 344, 64, 64), (358, 358, 0, 100000), (360, 366, 0, 100000)] F F857_ := fs_tr g850_ s859_ rfl
        have rk861_ : rk K F857_ := rk_fs rk851_ s859_ (fs_rg rfl) rfl
        refine ga_aload_n (v := .ref 344) hm_184 rfl rfl rfl ?_
        refine fl_bipush hm_184 rfl rfl ?_
        have b862_ : 0 ≤ F857_ 344 5 ∧ F857_ 344 5 ≤ 600 := gi_g g858_ rfl
        refine gVv (nY := 2) (F := 2) (L := 41) (As := [.int (Int32.ofInt 41)]) (b := 344) (rest := []) hm_184 rfl hm_51 rfl rfl (fl_ob sc_344) rfl rfl rfl rfl rfl (by omega) (by omega) (mc_51s hG F857_ X g858_ (K) (41) (1) hgK rk861_ hkt (⟨by omega, by omega⟩) (by omega) (by omega)) (fun _ _ h => False.elim h) ?_
        have b864_ : 0 ≤ F857_ 344 9 ∧ F857_ 344 9 ≤ 5 := gi_g g858_ rfl
        rintro A1_ ⟨F867_, hA_, g868_, s869_, c865_, c866_⟩
        subst hA_
        have g870_ : fs [(344, 344, 5, 5), (344, 344, 9, 10), (344, 344, 33, 33), (344, 344, 36, 36), (344, 344, 64, 64), (358, 358, 0, 100000), (360, 366, 0, 100000)] F F867_ := fs_tr g860_ s869_ rfl
        have rk871_ : rk K F867_ := rk_fs rk861_ s869_ (fs_rg rfl) rfl
        refine ga_aload_n (v := .ref 344) hm_184 rfl rfl rfl ?_
        refine fl_bipush hm_184 rfl rfl ?_
        have b872_ : 0 ≤ F867_ 344 5 ∧ F867_ 344 5 ≤ 600 := gi_g g868_ rfl
        refine gVv (nY := 2) (F := 2) (L := 41) (As := [.int (Int32.ofInt 40)]) (b := 344) (rest := []) hm_184 rfl hm_51 rfl rfl (fl_ob sc_344) rfl rfl rfl rfl rfl (by omega) (by omega) (mc_51s hG F867_ X g868_ (K) (40) (0) hgK rk871_ hkt (⟨by omega, by omega⟩) (by omega) (by omega)) (fun _ _ h => False.elim h) ?_
        have b874_ : 0 ≤ F867_ 344 9 ∧ F867_ 344 9 ≤ 5 := gi_g g868_ rfl
        rintro A1_ ⟨F877_, hA_, g878_, s879_, c875_, c876_⟩
        subst hA_
        have g880_ : fs [(344, 344, 5, 5), (344, 344, 9, 10), (344, 344, 33, 33), (344, 344, 36, 36), (344, 344, 64, 64), (358, 358, 0, 100000), (360, 366, 0, 100000)] F F877_ := fs_tr g870_ s879_ rfl
        have rk881_ : rk K F877_ := rk_fs rk871_ s879_ (fs_rg rfl) rfl
        refine ga_aload_n (v := .ref 344) hm_184 rfl rfl rfl ?_
        refine fl_bipush hm_184 rfl rfl ?_
        have b882_ : 0 ≤ F877_ 344 5 ∧ F877_ 344 5 ≤ 600 := gi_g g878_ rfl
        refine gVv (nY := 2) (F := 2) (L := 44) (As := [.int (Int32.ofInt 17)]) (b := 344) (rest := []) hm_184 rfl hm_55 rfl rfl (fl_ob sc_344) rfl rfl rfl rfl rfl (by omega) (by omega) (mc_55s hG F877_ X g878_ (K) (17) ([58, 103, 111, 97, 108]) hgK rk881_ hkt (⟨by omega, by omega⟩) (⟨by omega, by omega⟩) (by decide) (kw_17 rk881_)) (fun _ _ h => False.elim h) ?_
        have b884_ : 0 ≤ F877_ 344 9 ∧ F877_ 344 9 ≤ 5 := gi_g g878_ rfl
        rintro A1_ ⟨F887_, hA_, g888_, s889_, c885_, c886_⟩
        subst hA_
        have g890_ : fs [(344, 344, 5, 5), (344, 344, 9, 10), (344, 344, 33, 33), (344, 344, 36, 36), (344, 344, 64, 64), (358, 358, 0, 100000), (360, 366, 0, 100000)] F F887_ := fs_tr g880_ s889_ rfl
        have rk891_ : rk K F887_ := rk_fs rk881_ s889_ (fs_rg rfl) rfl
        refine ga_aload_n (v := .ref 344) hm_184 rfl rfl rfl ?_
        refine ga_getr (b := 358) hm_184 rfl sc_344 rfl ?_
        refine fl_iconst hm_184 rfl ?_
        refine fl_iconst hm_184 rfl ?_
        refine fl_iast (z := 5) (v := 0) hm_184 rfl sc_358 (by omega) (by omega) (by omega) ?_
        refine ga_aload_n (v := .ref 344) hm_184 rfl rfl rfl ?_
        refine fl_iconst hm_184 rfl ?_
        refine fl_bipush hm_184 rfl rfl ?_
        obtain ⟨F892_, q893_⟩ : ∃ Fq_, Fq_ = (fl_u F887_ 358 (5 : Int).toNat 0) := ⟨_, rfl⟩
        rw [← q893_]
        have g894_ : gi F892_ := by rw [q893_]; exact gi_u (g888_) rfl (by omega) (by omega)
        have g895_ : fs [(344, 344, 5, 5), (344, 344, 9, 10), (344, 344, 33, 33), (344, 344, 36, 36), (344, 344, 64, 64), (358, 358, 0, 100000), (360, 366, 0, 100000)] F F892_ := by rw [q893_]; exact fs_u (g890_) rfl
        have rk896_ : rk K F892_ := by rw [q893_]; exact rk_u (rk891_) (by first | decide | exact nc_ rfl | omega) (by first | decide | exact nc_ rfl | omega)
        have e897_ : F892_ 344 5 = F887_ 344 5 := by rw [q893_]; exact fl_u_ne (by first | exact nc_ rfl | decide | omega)
        have b898_ : 0 ≤ F887_ 344 5 ∧ F887_ 344 5 ≤ 600 := gi_g g888_ rfl
        refine gVv (nY := 4) (F := 6) (L := 142) (As := [.int (Int32.ofInt 5), .int (Int32.ofInt 40)]) (b := 344) (rest := []) hm_184 rfl hm_175 rfl rfl (fl_ob sc_344) rfl rfl rfl rfl rfl (by omega) (by omega) (mc_175s hG F892_ X g894_ (K) (5) (40) (2) ([]) ([]) (pl) (ps) hgK rk896_ hkt (⟨by omega, by omega⟩) ((by rw [q893_]; exact (trm_u (trm_fs (trm_fs (trm_fs (trm_fs (trm_fs (trm_fs (trm_fs (trm_fs (trm_fs (trm_fs (trm_fs (trm_fs (trm_fs (trm_fs (trm_fs (trm_fs (trm_fs (trm_fs (trm_fs (trm_fs (trm_fs (trm_fs (tr5_0 h33) s8_ (by first | exact fs_rg rfl | exact fun r j hj => (fs_n (by omega) (fs_n (by omega) rfl)))) s18_ (by first | exact fs_rg rfl | exact fun r j hj => (fs_n (by omega) (fs_n (by omega) rfl)))) s28_ (by first | exact fs_rg rfl | exact fun r j hj => (fs_n (by omega) (fs_n (by omega) rfl)))) s38_ (by first | exact fs_rg rfl | exact fun r j hj => (fs_n (by omega) (fs_n (by omega) rfl)))) s50_ (by first | exact fs_rg rfl | exact fun r j hj => (fs_n (by omega) rfl))) s59_ (by first | exact fs_rg rfl | exact fun r j hj => (fs_n (by omega) rfl))) s69_ (by first | exact fs_rg rfl | exact fun r j hj => (fs_n (by omega) (fs_n (by omega) rfl)))) s79_ (by first | exact fs_rg rfl | exact fun r j hj => (fs_n (by omega) (fs_n (by omega) rfl)))) s89_ (by first | exact fs_rg rfl | exact fun r j hj => (fs_n (by omega) (fs_n (by omega) rfl)))) s101_ (by first | exact fs_rg rfl | exact fun r j hj => (fs_n (by omega) rfl))) s129_ (by first | exact fs_rg rfl | exact fun r j hj => (fs_n (by omega) rfl))) s139_ (by first | exact fs_rg rfl | exact fun r j hj => (fs_n (by omega) (fs_n (by omega) rfl)))) s149_ (by first | exact fs_rg rfl | exact fun r j hj => (fs_n (by omega) (fs_n (by omega) rfl)))) s159_ (by first | exact fs_rg rfl | exact fun r j hj => (fs_n (by omega) (fs_n (by omega) rfl)))) s815_ (by first | exact fs_rg rfl | exact fun r j hj => (fs_n (by omega) (fs_n (by omega) rfl)))) s828_ (by first | exact fs_rg rfl | exact fun r j hj => (fs_n (by omega) (fs_n (by omega) rfl)))) s839_ (by first | exact fs_rg rfl | exact fun r j hj => (fs_n (by omega) (fs_n (by omega) rfl)))) s849_ (by first | exact fs_rg rfl | exact fun r j hj => (fs_n (by omega) (fs_n (by omega) rfl)))) s859_ (by first | exact fs_rg rfl | exact fun r j hj => (fs_n (by omega) (fs_n (by omega) (fs_n (by omega) (fs_n (by omega) rfl)))))) s869_ (by first | exact fs_rg rfl | exact fun r j hj => (fs_n (by omega) (fs_n (by omega) rfl)))) s879_ (by first | exact fs_rg rfl | exact fun r j hj => (fs_n (by omega) (fs_n (by omega) rfl)))) s889_ (by first | exact fs_rg rfl | exact fun r j hj => (fs_n (by omega) (fs_n (by omega) rfl)))) (by first | decide | exact nc_ rfl | omega)))) (rfl) (⟨by omega, by omega⟩) ((by rw [q893_]; exact (rpn_u (rpn_fs (rpn_fs (rpn_fs (rpn_fs (rpn_fs (rpn_fs (rpn_fs (rpn_fs (rpn_fs (rpn_fs (rpn_fs (rpn_fs (rpn_fs (rpn_fs (rpn_fs (rpn_fs (rpn_fs (rpn_fs (rpn_fs (rpn_fs (rpn_fs (rpn_fs hpl s8_ (fun _ => (by first | exact fs_c rfl | exact (fs_n (by omega) (fs_n (by omega) rfl)))) (by first | exact fs_c rfl | exact (fs_n (by omega) (fs_n (by omega) rfl)))) s18_ (fun _ => (by first | exact fs_c rfl | exact (fs_n (by omega) (fs_n (by omega) rfl)))) (by first | exact fs_c rfl | exact (fs_n (by omega) (fs_n (by omega) rfl)))) s28_ (fun _ => (by first | exact fs_c rfl | exact (fs_n (by omega) (fs_n (by omega) rfl)))) (by first | exact fs_c rfl | exact (fs_n (by omega) (fs_n (by omega) rfl)))) s38_ (fun _ => (by first | exact fs_c rfl | exact (fs_n (by omega) (fs_n (by omega) rfl)))) (by first | exact fs_c rfl | exact (fs_n (by omega) (fs_n (by omega) rfl)))) s50_ (fun _ => (by first | exact fs_c rfl | exact (fs_n (by omega) rfl))) (by first | exact fs_c rfl | exact (fs_n (by omega) rfl))) s59_ (fun _ => (by first | exact fs_c rfl | exact (fs_n (by omega) rfl))) (by first | exact fs_c rfl | exact (fs_n (by omega) rfl))) s69_ (fun _ => (by first | exact fs_c rfl | exact (fs_n (by omega) (fs_n (by omega) rfl)))) (by first | exact fs_c rfl | exact (fs_n (by omega) (fs_n (by omega) rfl)))) s79_ (fun _ => (by first | exact fs_c rfl | exact (fs_n (by omega) (fs_n (by omega) rfl)))) (by first | exact fs_c rfl | exact (fs_n (by omega) (fs_n (by omega) rfl)))) s89_ (fun _ => (by first | exact fs_c rfl | exact (fs_n (by omega) (fs_n (by omega) rfl)))) (by first | exact fs_c rfl | exact (fs_n (by omega) (fs_n (by omega) rfl)))) s101_ (fun _ => (by first | exact fs_c rfl | exact (fs_n (by omega) rfl))) (by first | exact fs_c rfl | exact (fs_n (by omega) rfl))) s129_ (fun _ => (by first | exact fs_c rfl | exact (fs_n (by omega) rfl))) (by first | exact fs_c rfl | exact (fs_n (by omega) rfl))) s139_ (fun _ => (by first | exact fs_c rfl | exact (fs_n (by omega) (fs_n (by omega) rfl)))) (by first | exact fs_c rfl | exact (fs_n (by omega) (fs_n (by omega) rfl)))) s149_ (fun _ => (by first | exact fs_c rfl | exact (fs_n (by omega) (fs_n (by omega) rfl)))) (by first | exact fs_c rfl | exact (fs_n (by omega) (fs_n (by omega) rfl)))) s159_ (fun _ => (by first | exact fs_c rfl | exact (fs_n (by omega) (fs_n (by omega) rfl)))) (by first | exact fs_c rfl | exact (fs_n (by omega) (fs_n (by omega) rfl)))) s815_ (fun _ => (by first | exact fs_c rfl | exact (fs_n (by omega) (fs_n (by omega) rfl)))) (by first | exact fs_c rfl | exact (fs_n (by omega) (fs_n (by omega) rfl)))) s828_ (fun _ => (by first | exact fs_c rfl | exact (fs_n (by omega) (fs_n (by omega) rfl)))) (by first | exact fs_c rfl | exact (fs_n (by omega) (fs_n (by omega) rfl)))) s839_ (fun _ => (by first | exact fs_c rfl | exact (fs_n (by omega) (fs_n (by omega) rfl)))) (by first | exact fs_c rfl | exact (fs_n (by omega) (fs_n (by omega) rfl)))) s849_ (fun _ => (by first | exact fs_c rfl | exact (fs_n (by omega) (fs_n (by omega) rfl)))) (by first | exact fs_c rfl | exact (fs_n (by omega) (fs_n (by omega) rfl)))) s859_ (fun _ => (by first | exact fs_c rfl | exact (fs_n (by omega) (fs_n (by omega) (fs_n (by omega) (fs_n (by omega) rfl)))))) (by first | exact fs_c rfl | exact (fs_n (by omega) (fs_n (by omega) (fs_n (by omega) (fs_n (by omega) rfl)))))) s869_ (fun _ => (by first | exact fs_c rfl | exact (fs_n (by omega) (fs_n (by omega) rfl)))) (by first | exact fs_c rfl | exact (fs_n (by omega) (fs_n (by omega) rfl)))) s879_ (fun _ => (by first | exact fs_c rfl | exact (fs_n (by omega) (fs_n (by omega) rfl)))) (by first | exact fs_c rfl | exact (fs_n (by omega) (fs_n (by omega) rfl)))) s889_ (fun _ => (by first | exact fs_c rfl | exact (fs_n (by omega) (fs_n (by omega) rfl)))) (by first | exact fs_c rfl | exact (fs_n (by omega) (fs_n (by omega) rfl)))) (by first | decide | exact nc_ rfl | omega) (by first | decide | exact nc_ rfl | omega)))) (⟨(by rw [q893_]; exact (rprd_u (rprd_fs (rprd_fs (rprd_fs (rprd_fs (rprd_fs (rprd_fs (rprd_fs (rprd_fs (rprd_fs (rprd_fs (rprd_fs (rprd_fs (rprd_fs (rprd_fs (rprd_fs (rprd_fs (rprd_fs (rprd_fs (rprd_fs (rprd_fs (rprd_fs (rprd_fs hps.1 s8_ (by first | exact fs_rg rfl | exact fun r j hj => (fs_n (by omega) (fs_n (by omega) rfl)))) s18_ (by first | exact fs_rg rfl | exact fun r j hj => (fs_n (by omega) (fs_n (by omega) rfl)))) s28_ (by first | exact fs_rg rfl | exact fun r j hj => (fs_n (by omega) (fs_n (by omega) rfl)))) s38_ (by first | exact fs_rg rfl | exact fun r j hj => (fs_n (by omega) (fs_n (by omega) rfl)))) s50_ (by first | exact fs_rg rfl | exact fun r j hj => (fs_n (by omega) rfl))) s59_ (by first | exact fs_rg rfl | exact fun r j hj => (fs_n (by omega) rfl))) s69_ (by first | exact fs_rg rfl | exact fun r j hj => (fs_n (by omega) (fs_n (by omega) rfl)))) s79_ (by first | exact fs_rg rfl | exact fun r j hj => (fs_n (by omega) (fs_n (by omega) rfl)))) s89_ (by first | exact fs_rg rfl | exact fun r j hj => (fs_n (by omega) (fs_n (by omega) rfl)))) s101_ (by first | exact fs_rg rfl | exact fun r j hj => (fs_n (by omega) rfl))) s129_ (by first | exact fs_rg rfl | exact fun r j hj => (fs_n (by omega) rfl))) s139_ (by first | exact fs_rg rfl | exact fun r j hj => (fs_n (by omega) (fs_n (by omega) rfl)))) s149_ (by first | exact fs_rg rfl | exact fun r j hj => (fs_n (by omega) (fs_n (by omega) rfl)))) s159_ (by first | exact fs_rg rfl | exact fun r j hj => (fs_n (by omega) (fs_n (by omega) rfl)))) s815_ (by first | exact fs_rg rfl | exact fun r j hj => (fs_n (by omega) (fs_n (by omega) rfl)))) s828_ (by first | exact fs_rg rfl | exact fun r j hj => (fs_n (by omega) (fs_n (by omega) rfl)))) s839_ (by first | exact fs_rg rfl | exact fun r j hj => (fs_n (by omega) (fs_n (by omega) rfl)))) s849_ (by first | exact fs_rg rfl | exact fun r j hj => (fs_n (by omega) (fs_n (by omega) rfl)))) s859_ (by first | exact fs_rg rfl | exact fun r j hj => (fs_n (by omega) (fs_n (by omega) (fs_n (by omega) (fs_n (by omega) rfl)))))) s869_ (by first | exact fs_rg rfl | exact fun r j hj => (fs_n (by omega) (fs_n (by omega) rfl)))) s879_ (by first | exact fs_rg rfl | exact fun r j hj => (fs_n (by omega) (fs_n (by omega) rfl)))) s889_ (by first | exact fs_rg rfl | exact fun r j hj => (fs_n (by omega) (fs_n (by omega) rfl)))) (by first | decide | exact nc_ rfl | omega))), hps.2⟩) (⟨by omega, by omega⟩) (Or.inr (by omega)) (by rw [q893_]; exact fl_u_eq)) (fun _ _ h => False.elim h) ?_
        have e900_ : F892_ 344 9 = F887_ 344 9 := by rw [q893_]; exact fl_u_ne (by first | exact nc_ rfl | decide | omega)
        have b901_ : 0 ≤ F887_ 344 9 ∧ F887_ 344 9 ≤ 5 := gi_g g888_ rfl
        rintro A1_ ⟨F904_, hA_, g905_, s906_, c902_, c903_⟩
        subst hA_
        have g907_ : fs [(344, 344, 5, 5), (344, 344, 9, 10), (344, 344, 33, 33), (344, 344, 36, 36), (344, 344, 64, 64), (358, 358, 0, 100000), (360, 366, 0, 100000)] F F904_ := fs_tr g895_ s906_ rfl
        have rk908_ : rk K F904_ := rk_fs rk896_ s906_ (fs_rg rfl) rfl
        try simp only [e900_] at c902_
        refine ga_aload_n (v := .ref 344) hm_184 rfl rfl rfl ?_
        refine fl_bipush hm_184 rfl rfl ?_
        have b909_ : 0 ≤ F904_ 344 5 ∧ F904_ 344 5 ≤ 600 := gi_g g905_ rfl
        refine gVv (nY := 2) (F := 2) (L := 41) (As := [.int (Int32.ofInt 41)]) (b := 344) (rest := []) hm_184 rfl hm_51 rfl rfl (fl_ob sc_344) rfl rfl rfl rfl rfl (by omega) (by omega) (mc_51s hG F904_ X g905_ (K) (41) (1) hgK rk908_ hkt (⟨by omega, by omega⟩) (by omega) (by omega)) (fun _ _ h => False.elim h) ?_
        have b911_ : 0 ≤ F904_ 344 9 ∧ F904_ 344 9 ≤ 5 := gi_g g905_ rfl
        rintro A1_ ⟨F914_, hA_, g915_, s916_, c912_, c913_⟩
        subst hA_
        have g917_ : fs [(344, 344, 5, 5), (344, 344, 9, 10), (344, 344, 33, 33), (344, 344, 36, 36), (344, 344, 64, 64), (358, 358, 0, 100000), (360, 366, 0, 100000)] F F914_ := fs_tr g907_ s916_ rfl
        have rk918_ : rk K F914_ := rk_fs rk908_ s916_ (fs_rg rfl) rfl
        refine ga_aload_n (v := .ref 344) hm_184 rfl rfl rfl ?_
        refine fl_bipush hm_184 rfl rfl ?_
        have b919_ : 0 ≤ F914_ 344 5 ∧ F914_ 344 5 ≤ 600 := gi_g g915_ rfl
        refine gVv (nY := 2) (F := 2) (L := 41) (As := [.int (Int32.ofInt 41)]) (b := 344) (rest := []) hm_184 rfl hm_51 rfl rfl (fl_ob sc_344) rfl rfl rfl rfl rfl (by omega) (by omega) (mc_51s hG F914_ X g915_ (K) (41) (1) hgK rk918_ hkt (⟨by omega, by omega⟩) (by omega) (by omega)) (fun _ _ h => False.elim h) ?_
        have b921_ : 0 ≤ F914_ 344 9 ∧ F914_ 344 9 ≤ 5 := gi_g g915_ rfl
        rintro A1_ ⟨F924_, hA_, g925_, s926_, c922_, c923_⟩
        subst hA_
        have g927_ : fs [(344, 344, 5, 5), (344, 344, 9, 10), (344, 344, 33, 33), (344, 344, 36, 36), (344, 344, 64, 64), (358, 358, 0, 100000), (360, 366, 0, 100000)] F F924_ := fs_tr g917_ s926_ rfl
        have rk928_ : rk K F924_ := rk_fs rk918_ s926_ (fs_rg rfl) rfl
        refine ga_aload_n (v := .ref 344) hm_184 rfl rfl rfl ?_
        refine gIi (nY := 1) (F := 0) (L := 0) (As := []) (b := 344) (rest := []) hm_184 rfl hm_59 rfl rfl (fl_ob sc_344) rfl rfl rfl rfl rfl (by omega) (by omega) ?_
        intro f929_ l930_ h931_ h932_
        show fl_R xi_ms 59 f929_ l930_ 0 [(0, .ref 344)] [] _ _
        refine ga_aload_n (v := .ref 344) hm_59 rfl rfl rfl ?_
        have b933_ : 0 ≤ F924_ 344 9 ∧ F924_ 344 9 ≤ 5 := gi_g g925_ rfl
        refine ga_geti (z := F924_ 344 9) hm_59 rfl sc_344 rfl (rfl) ?_
        refine fl_if_le (a := F924_ 344 9) hm_59 rfl ⟨by omega, by omega⟩ (fun h934_ => ?_) (fun h935_ => ?_)
        ·
          refine fl_iconst hm_59 rfl ?_
          refine gr_i hm_59 rfl rfl (ga_nb (by omega)) ?_
          clear h931_ h932_ f929_ l930_
          refine fl_if_ne hm_184 rfl ⟨by omega, by omega⟩ (fun h => absurd h (by omega)) (fun _ => ?_)
          refine ga_aload_n (v := .ref 344) hm_184 rfl rfl rfl ?_
          have b936_ : 0 ≤ F924_ 344 5 ∧ F924_ 344 5 ≤ 600 := gi_g g925_ rfl
          refine ga_geti (z := F924_ 344 5) hm_184 rfl sc_344 rfl (rfl) ?_
          refine ga_aload_n (v := .ref 344) hm_184 rfl rfl rfl ?_
          have e937_ : F924_ 344 4 = K 1 6 - 1 := rk928_.2.1
          refine ga_geti (z := K 1 6 - 1) hm_184 rfl sc_344 rfl (e937_) ?_
          refine fl_icmp_ge (a := F924_ 344 5) (b := K 1 6 - 1) hm_184 rfl ⟨by omega, by omega⟩ ⟨by omega, by omega⟩ (fun h938_ => ?_) (fun h939_ => ?_)
          ·
            refine gr_v hm_184 rfl rfl ?_
            exact ⟨F924_, rfl, g925_, g927_, (⟨by omega, by omega⟩)⟩
          refine ga_aload_n (v := .ref 344) hm_184 rfl rfl rfl ?_
          refine fl_iconst hm_184 rfl ?_
          refine gVv (nY := 2) (F := 0) (L := 0) (As := [.int (Int32.ofInt 1)]) (b := 344) (rest := []) hm_184 rfl hm_54 rfl rfl (fl_ob sc_344) rfl rfl rfl rfl rfl (by omega) (by omega) (mc_54 hG F924_ X g925_ (K) (1) hgK rk928_ hkt (⟨by omega, by omega⟩) (⟨by omega, by omega⟩)) (fun _ _ h => False.elim h) ?_
          have b941_ : 0 ≤ F924_ 344 10 ∧ F924_ 344 10 ≤ 600 := gi_g g925_ rfl
          rintro A1_ ⟨F945_, hA_, g946_, s947_, c942_, c943_, c944_⟩
          subst hA_
          have g948_ : fs [(344, 344, 5, 5), (344, 344, 9, 10), (344, 344, 33, 33), (344, 344, 36, 36), (344, 344, 64, 64), (358, 358, 0, 100000), (360, 366, 0, 100000)] F F945_ := fs_tr g927_ s947_ rfl
          have rk949_ : rk K F945_ := rk_fs rk928_ s947_ (fs_rg rfl) rfl
          have c943_s := c943_.1 (by omega)
          clear c943_
          refine gr_v hm_184 rfl rfl ?_
          have e950_ : F945_ 344 5 = F924_ 344 5 := (s947_ 344 5 rfl).trans (rfl)
          exact ⟨F945_, rfl, g946_, g948_, (⟨by omega, by omega⟩)⟩
        refine fl_iconst hm_59 rfl ?_
        refine fl_goto hm_59 rfl ?_
        refine gr_i hm_59 rfl rfl (ga_nb (by omega)) ?_
        clear h931_ h932_ f929_ l930_
        refine fl_if_ne hm_184 rfl ⟨by omega, by omega⟩ (fun _ => ?_) (fun h => absurd (by omega) h)
        refine gr_v hm_184 rfl rfl ?_
        have b951_ : 0 ≤ F924_ 344 5 ∧ F924_ 344 5 ≤ 600 := gi_g g925_ rfl
        exact ⟨F924_, rfl, g925_, g927_, (⟨by omega, by omega⟩)⟩
      refine fl_iconst hm_59 rfl ?_
      refine fl_goto hm_59 rfl ?_
      refine gr_i hm_59 rfl rfl (ga_nb (by omega)) ?_
      clear h820_ h821_ f818_ l819_
      refine fl_if_ne hm_184 rfl ⟨by omega, by omega⟩ (fun _ => ?_) (fun h => absurd (by omega) h)
      refine ga_aload_n (v := .ref 344) hm_184 rfl rfl rfl ?_
      refine fl_bipush hm_184 rfl rfl ?_
      have b952_ : 0 ≤ F813_ 344 5 ∧ F813_ 344 5 ≤ 600 := gi_g g814_ rfl
      refine gVv (nY := 2) (F := 2) (L := 41) (As := [.int (Int32.ofInt 40)]) (b := 344) (rest := []) hm_184 rfl hm_51 rfl rfl (fl_ob sc_344) rfl rfl rfl rfl rfl (by omega) (by omega) (mc_51s hG F813_ X g814_ (K) (40) (0) hgK rk817_ hkt (⟨by omega, by omega⟩) (by omega) (by omega)) (fun _ _ h => False.elim h) ?_
      rintro A1_ ⟨F956_, hA_, g957_, s958_, c954_, c955_⟩
      subst hA_
      have g959_ : fs [(344, 344, 5, 5), (344, 344, 9, 10), (344, 344, 33, 33), (344, 344, 36, 36), (344, 344, 64, 64), (358, 358, 0, 100000), (360, 366, 0, 100000)] F F956_ := fs_tr g816_ s958_ rfl
      have rk960_ : rk K F956_ := rk_fs rk817_ s958_ (fs_rg rfl) rfl
      refine ga_aload_n (v := .ref 344) hm_184 rfl rfl rfl ?_
      refine fl_bipush hm_184 rfl rfl ?_
      have b961_ : 0 ≤ F956_ 344 5 ∧ F956_ 344 5 ≤ 600 := gi_g g957_ rfl
      refine gVv (nY := 2) (F := 2) (L := 44) (As := [.int (Int32.ofInt 16)]) (b := 344) (rest := []) hm_184 rfl hm_55 rfl rfl (fl_ob sc_344) rfl rfl rfl rfl rfl (by omega) (by omega) (mc_55s hG F956_ X g957_ (K) (16) ([58, 105, 110, 105, 116]) hgK rk960_ hkt (⟨by omega, by omega⟩) (⟨by omega, by omega⟩) (by decide) (kw_16 rk960_)) (fun _ _ h => False.elim h) ?_
      have b963_ : 0 ≤ F956_ 344 9 ∧ F956_ 344 9 ≤ 5 := gi_g g957_ rfl
      rintro A1_ ⟨F966_, hA_, g967_, s968_, c964_, c965_⟩
      subst hA_
      have g969_ : fs [(344, 344, 5, 5), (344, 344, 9, 10), (344, 344, 33, 33), (344, 344, 36, 36), (344, 344, 64, 64), (358, 358, 0, 100000), (360, 366, 0, 100000)] F F966_ := fs_tr g959_ s968_ rfl
      have rk970_ : rk K F966_ := rk_fs rk960_ s968_ (fs_rg rfl) rfl
      refine ga_aload_n (v := .ref 344) hm_184 rfl rfl rfl ?_
      have b971_ : 0 ≤ F966_ 344 5 ∧ F966_ 344 5 ≤ 600 := gi_g g967_ rfl
      refine gVv (nY := 2) (F := 5) (L := 117) (As := []) (b := 344) (rest := []) hm_184 rfl hm_178 rfl rfl (fl_ob sc_344) rfl rfl rfl rfl rfl (by omega) (by omega) (mc_178 hG F966_ X g967_ (K) ([]) ([]) (pl) (ps) hgK rk970_ hkt (⟨by omega, by omega⟩) ((trm_fs (trm_fs (trm_fs (trm_fs (trm_fs (trm_fs (trm_fs (trm_fs (trm_fs (trm_fs (trm_fs (trm_fs (trm_fs (trm_fs (trm_fs (trm_fs (trm_fs (tr5_0 h33) s8_ (by first | exact fs_rg rfl | exact fun r j hj => (fs_n (by omega) (fs_n (by omega) rfl)))) s18_ (by first | exact fs_rg rfl | exact fun r j hj => (fs_n (by omega) (fs_n (by omega) rfl)))) s28_ (by first | exact fs_rg rfl | exact fun r j hj => (fs_n (by omega) (fs_n (by omega) rfl)))) s38_ (by first | exact fs_rg rfl | exact fun r j hj => (fs_n (by omega) (fs_n (by omega) rfl)))) s50_ (by first | exact fs_rg rfl | exact fun r j hj => (fs_n (by omega) rfl))) s59_ (by first | exact fs_rg rfl | exact fun r j hj => (fs_n (by omega) rfl))) s69_ (by first | exact fs_rg rfl | exact fun r j hj => (fs_n (by omega) (fs_n (by omega) rfl)))) s79_ (by first | exact fs_rg rfl | exact fun r j hj => (fs_n (by omega) (fs_n (by omega) rfl)))) s89_ (by first | exact fs_rg rfl | exact fun r j hj => (fs_n (by omega) (fs_n (by omega) rfl)))) s101_ (by first | exact fs_rg rfl | exact fun r j hj => (fs_n (by omega) rfl))) s129_ (by first | exact fs_rg rfl | exact fun r j hj => (fs_n (by omega) rfl))) s139_ (by first | exact fs_rg rfl | exact fun r j hj => (fs_n (by omega) (fs_n (by omega) rfl)))) s149_ (by first | exact fs_rg rfl | exact fun r j hj => (fs_n (by omega) (fs_n (by omega) rfl)))) s159_ (by first | exact fs_rg rfl | exact fun r j hj => (fs_n (by omega) (fs_n (by omega) rfl)))) s815_ (by first | exact fs_rg rfl | exact fun r j hj => (fs_n (by omega) (fs_n (by omega) rfl)))) s958_ (by first | exact fs_rg rfl | exact fun r j hj => (fs_n (by omega) (fs_n (by omega) rfl)))) s968_ (by first | exact fs_rg rfl | exact fun r j hj => (fs_n (by omega) (fs_n (by omega) rfl))))) (rfl) ((rpn_fs (rpn_fs (rpn_fs (rpn_fs (rpn_fs (rpn_fs (rpn_fs (rpn_fs (rpn_fs (rpn_fs (rpn_fs (rpn_fs (rpn_fs (rpn_fs (rpn_fs (rpn_fs (rpn_fs hpl s8_ (fun _ => (by first | exact fs_c rfl | exact (fs_n (by omega) (fs_n (by omega) rfl)))) (by first | exact fs_c rfl | exact (fs_n (by omega) (fs_n (by omega) rfl)))) s18_ (fun _ => (by first | exact fs_c rfl | exact (fs_n (by omega) (fs_n (by omega) rfl)))) (by first | exact fs_c rfl | exact (fs_n (by omega) (fs_n (by omega) rfl)))) s28_ (fun _ => (by first | exact fs_c rfl | exact (fs_n (by omega) (fs_n (by omega) rfl)))) (by first | exact fs_c rfl | exact (fs_n (by omega) (fs_n (by omega) rfl)))) s38_ (fun _ => (by first | exact fs_c rfl | exact (fs_n (by omega) (fs_n (by omega) rfl)))) (by first | exact fs_c rfl | exact (fs_n (by omega) (fs_n (by omega) rfl)))) s50_ (fun _ => (by first | exact fs_c rfl | exact (fs_n (by omega) rfl))) (by first | exact fs_c rfl | exact (fs_n (by omega) rfl))) s59_ (fun _ => (by first | exact fs_c rfl | exact (fs_n (by omega) rfl))) (by first | exact fs_c rfl | exact (fs_n (by omega) rfl))) s69_ (fun _ => (by first | exact fs_c rfl | exact (fs_n (by omega) (fs_n (by omega) rfl)))) (by first | exact fs_c rfl | exact (fs_n (by omega) (fs_n (by omega) rfl)))) s79_ (fun _ => (by first | exact fs_c rfl | exact (fs_n (by omega) (fs_n (by omega) rfl)))) (by first | exact fs_c rfl | exact (fs_n (by omega) (fs_n (by omega) rfl)))) s89_ (fun _ => (by first | exact fs_c rfl | exact (fs_n (by omega) (fs_n (by omega) rfl)))) (by first | exact fs_c rfl | exact (fs_n (by omega) (fs_n (by omega) rfl)))) s101_ (fun _ => (by first | exact fs_c rfl | exact (fs_n (by omega) rfl))) (by first | exact fs_c rfl | exact (fs_n (by omega) rfl))) s129_ (fun _ => (by first | exact fs_c rfl | exact (fs_n (by omega) rfl))) (by first | exact fs_c rfl | exact (fs_n (by omega) rfl))) s139_ (fun _ => (by first | exact fs_c rfl | exact (fs_n (by omega) (fs_n (by omega) rfl)))) (by first | exact fs_c rfl | exact (fs_n (by omega) (fs_n (by omega) rfl)))) s149_ (fun _ => (by first | exact fs_c rfl | exact (fs_n (by omega) (fs_n (by omega) rfl)))) (by first | exact fs_c rfl | exact (fs_n (by omega) (fs_n (by omega) rfl)))) s159_ (fun _ => (by first | exact fs_c rfl | exact (fs_n (by omega) (fs_n (by omega) rfl)))) (by first | exact fs_c rfl | exact (fs_n (by omega) (fs_n (by omega) rfl)))) s815_ (fun _ => (by first | exact fs_c rfl | exact (fs_n (by omega) (fs_n (by omega) rfl)))) (by first | exact fs_c rfl | exact (fs_n (by omega) (fs_n (by omega) rfl)))) s958_ (fun _ => (by first | exact fs_c rfl | exact (fs_n (by omega) (fs_n (by omega) rfl)))) (by first | exact fs_c rfl | exact (fs_n (by omega) (fs_n (by omega) rfl)))) s968_ (fun _ => (by first | exact fs_c rfl | exact (fs_n (by omega) (fs_n (by omega) rfl)))) (by first | exact fs_c rfl | exact (fs_n (by omega) (fs_n (by omega) rfl))))) (⟨(rprd_fs (rprd_fs (rprd_fs (rprd_fs (rprd_fs (rprd_fs (rprd_fs (rprd_fs (rprd_fs (rprd_fs (rprd_fs (rprd_fs (rprd_fs (rprd_fs (rprd_fs (rprd_fs (rprd_fs hps.1 s8_ (by first | exact fs_rg rfl | exact fun r j hj => (fs_n (by omega) (fs_n (by omega) rfl)))) s18_ (by first | exact fs_rg rfl | exact fun r j hj => (fs_n (by omega) (fs_n (by omega) rfl)))) s28_ (by first | exact fs_rg rfl | exact fun r j hj => (fs_n (by omega) (fs_n (by omega) rfl)))) s38_ (by first | exact fs_rg rfl | exact fun r j hj => (fs_n (by omega) (fs_n (by omega) rfl)))) s50_ (by first | exact fs_rg rfl | exact fun r j hj => (fs_n (by omega) rfl))) s59_ (by first | exact fs_rg rfl | exact fun r j hj => (fs_n (by omega) rfl))) s69_ (by first | exact fs_rg rfl | exact fun r j hj => (fs_n (by omega) (fs_n (by omega) rfl)))) s79_ (by first | exact fs_rg rfl | exact fun r j hj => (fs_n (by omega) (fs_n (by omega) rfl)))) s89_ (by first | exact fs_rg rfl | exact fun r j hj => (fs_n (by omega) (fs_n (by omega) rfl)))) s101_ (by first | exact fs_rg rfl | exact fun r j hj => (fs_n (by omega) rfl))) s129_ (by first | exact fs_rg rfl | exact fun r j hj => (fs_n (by omega) rfl))) s139_ (by first | exact fs_rg rfl | exact fun r j hj => (fs_n (by omega) (fs_n (by omega) rfl)))) s149_ (by first | exact fs_rg rfl | exact fun r j hj => (fs_n (by omega) (fs_n (by omega) rfl)))) s159_ (by first | exact fs_rg rfl | exact fun r j hj => (fs_n (by omega) (fs_n (by omega) rfl)))) s815_ (by first | exact fs_rg rfl | exact fun r j hj => (fs_n (by omega) (fs_n (by omega) rfl)))) s958_ (by first | exact fs_rg rfl | exact fun r j hj => (fs_n (by omega) (fs_n (by omega) rfl)))) s968_ (by first | exact fs_rg rfl | exact fun r j hj => (fs_n (by omega) (fs_n (by omega) rfl)))), hps.2⟩)) (fun _ _ h => False.elim h) ?_
      have b973_ : 0 ≤ F966_ 344 9 ∧ F966_ 344 9 ≤ 5 := gi_g g967_ rfl
      rintro A1_ ⟨F976_, hA_, g977_, s978_, c974_, c975_⟩
      subst hA_
      have g979_ : fs [(344, 344, 5, 5), (344, 344, 9, 10), (344, 344, 33, 33), (344, 344, 36, 36), (344, 344, 64, 64), (358, 358, 0, 100000), (360, 366, 0, 100000)] F F976_ := fs_tr g969_ s978_ rfl
      have rk980_ : rk K F976_ := rk_fs rk970_ s978_ (fs_rg rfl) rfl
      refine ga_aload_n (v := .ref 344) hm_184 rfl rfl rfl ?_
      refine fl_bipush hm_184 rfl rfl ?_
      have b981_ : 0 ≤ F976_ 344 5 ∧ F976_ 344 5 ≤ 600 := gi_g g977_ rfl
      refine gVv (nY := 2) (F := 2) (L := 41) (As := [.int (Int32.ofInt 41)]) (b := 344) (rest := []) hm_184 rfl hm_51 rfl rfl (fl_ob sc_344) rfl rfl rfl rfl rfl (by omega) (by omega) (mc_51s hG F976_ X g977_ (K) (41) (1) hgK rk980_ hkt (⟨by omega, by omega⟩) (by omega) (by omega)) (fun _ _ h => False.elim h) ?_
      have b983_ : 0 ≤ F976_ 344 9 ∧ F976_ 344 9 ≤ 5 := gi_g g977_ rfl
      rintro A1_ ⟨F986_, hA_, g987_, s988_, c984_, c985_⟩
      subst hA_
      have g989_ : fs [(344, 344, 5, 5), (344, 344, 9, 10), (344, 344, 33, 33), (344, 344, 36, 36), (344, 344, 64, 64), (358, 358, 0, 100000), (360, 366, 0, 100000)] F F986_ := fs_tr g979_ s988_ rfl
      have rk990_ : rk K F986_ := rk_fs rk980_ s988_ (fs_rg rfl) rfl
      refine ga_aload_n (v := .ref 344) hm_184 rfl rfl rfl ?_
      refine fl_bipush hm_184 rfl rfl ?_
      have b991_ : 0 ≤ F986_ 344 5 ∧ F986_ 344 5 ≤ 600 := gi_g g987_ rfl
      refine gVv (nY := 2) (F := 2) (L := 41) (As := [.int (Int32.ofInt 40)]) (b := 344) (rest := []) hm_184 rfl hm_51 rfl rfl (fl_ob sc_344) rfl rfl rfl rfl rfl (by omega) (by omega) (mc_51s hG F986_ X g987_ (K) (40) (0) hgK rk990_ hkt (⟨by omega, by omega⟩) (by omega) (by omega)) (fun _ _ h => False.elim h) ?_
      have b993_ : 0 ≤ F986_ 344 9 ∧ F986_ 344 9 ≤ 5 := gi_g g987_ rfl
      rintro A1_ ⟨F996_, hA_, g997_, s998_, c994_, c995_⟩
      subst hA_
      have g999_ : fs [(344, 344, 5, 5), (344, 344, 9, 10), (344, 344, 33, 33), (344, 344, 36, 36), (344, 344, 64, 64), (358, 358, 0, 100000), (360, 366, 0, 100000)] F F996_ := fs_tr g989_ s998_ rfl
      have rk1000_ : rk K F996_ := rk_fs rk990_ s998_ (fs_rg rfl) rfl
      refine ga_aload_n (v := .ref 344) hm_184 rfl rfl rfl ?_
      refine fl_bipush hm_184 rfl rfl ?_
      have b1001_ : 0 ≤ F996_ 344 5 ∧ F996_ 344 5 ≤ 600 := gi_g g997_ rfl
      refine gVv (nY := 2) (F := 2) (L := 44) (As := [.int (Int32.ofInt 17)]) (b := 344) (rest := []) hm_184 rfl hm_55 rfl rfl (fl_ob sc_344) rfl rfl rfl rfl rfl (by omega) (by omega) (mc_55s hG F996_ X g997_ (K) (17) ([58, 103, 111, 97, 108]) hgK rk1000_ hkt (⟨by omega, by omega⟩) (⟨by omega, by omega⟩) (by decide) (kw_17 rk1000_)) (fun _ _ h => False.elim h) ?_
      have b1003_ : 0 ≤ F996_ 344 9 ∧ F996_ 344 9 ≤ 5 := gi_g g997_ rfl
      rintro A1_ ⟨F1006_, hA_, g1007_, s1008_, c1004_, c1005_⟩
      subst hA_
      have g1009_ : fs [(344, 344, 5, 5), (344, 344, 9, 10), (344, 344, 33, 33), (344, 344, 36, 36), (344, 344, 64, 64), (358, 358, 0, 100000), (360, 366, 0, 100000)] F F1006_ := fs_tr g999_ s1008_ rfl
      have rk1010_ : rk K F1006_ := rk_fs rk1000_ s1008_ (fs_rg rfl) rfl
      refine ga_aload_n (v := .ref 344) hm_184 rfl rfl rfl ?_
      refine ga_getr (b := 358) hm_184 rfl sc_344 rfl ?_
      refine fl_iconst hm_184 rfl ?_
      refine fl_iconst hm_184 rfl ?_
      refine fl_iast (z := 5) (v := 0) hm_184 rfl sc_358 (by omega) (by omega) (by omega) ?_
      refine ga_aload_n (v := .ref 344) hm_184 rfl rfl rfl ?_
      refine fl_iconst hm_184 rfl ?_
      refine fl_bipush hm_184 rfl rfl ?_
      obtain ⟨F1011_, q1012_⟩ : ∃ Fq_, Fq_ = (fl_u F1006_ 358 (5 : Int).toNat 0) := ⟨_, rfl⟩
      rw [← q1012_]
      have g1013_ : gi F1011_ := by rw [q1012_]; exact gi_u (g1007_) rfl (by omega) (by omega)
      have g1014_ : fs [(344, 344, 5, 5), (344, 344, 9, 10), (344, 344, 33, 33), (344, 344, 36, 36), (344, 344, 64, 64), (358, 358, 0, 100000), (360, 366, 0, 100000)] F F1011_ := by rw [q1012_]; exact fs_u (g1009_) rfl
      have rk1015_ : rk K F1011_ := by rw [q1012_]; exact rk_u (rk1010_) (by first | decide | exact nc_ rfl | omega) (by first | decide | exact nc_ rfl | omega)
      have e1016_ : F1011_ 344 5 = F1006_ 344 5 := by rw [q1012_]; exact fl_u_ne (by first | exact nc_ rfl | decide | omega)
      have b1017_ : 0 ≤ F1006_ 344 5 ∧ F1006_ 344 5 ≤ 600 := gi_g g1007_ rfl
      refine gVv (nY := 4) (F := 6) (L := 142) (As := [.int (Int32.ofInt 5), .int (Int32.ofInt 40)]) (b := 344) (rest := []) hm_184 rfl hm_175 rfl rfl (fl_ob sc_344) rfl rfl rfl rfl rfl (by omega) (by omega) (mc_175s hG F1011_ X g1013_ (K) (5) (40) (2) ([]) ([]) (pl) (ps) hgK rk1015_ hkt (⟨by omega, by omega⟩) ((by rw [q1012_]; exact (trm_u (trm_fs (trm_fs (trm_fs (trm_fs (trm_fs (trm_fs (trm_fs (trm_fs (trm_fs (trm_fs (trm_fs (trm_fs (trm_fs (trm_fs (trm_fs (trm_fs (trm_fs (trm_fs (trm_fs (trm_fs (trm_fs (tr5_0 h33) s8_ (by first | exact fs_rg rfl | exact fun r j hj => (fs_n (by omega) (fs_n (by omega) rfl)))) s18_ (by first | exact fs_rg rfl | exact fun r j hj => (fs_n (by omega) (fs_n (by omega) rfl)))) s28_ (by first | exact fs_rg rfl | exact fun r j hj => (fs_n (by omega) (fs_n (by omega) rfl)))) s38_ (by first | exact fs_rg rfl | exact fun r j hj => (fs_n (by omega) (fs_n (by omega) rfl)))) s50_ (by first | exact fs_rg rfl | exact fun r j hj => (fs_n (by omega) rfl))) s59_ (by first | exact fs_rg rfl | exact fun r j hj => (fs_n (by omega) rfl))) s69_ (by first | exact fs_rg rfl | exact fun r j hj => (fs_n (by omega) (fs_n (by omega) rfl)))) s79_ (by first | exact fs_rg rfl | exact fun r j hj => (fs_n (by omega) (fs_n (by omega) rfl)))) s89_ (by first | exact fs_rg rfl | exact fun r j hj => (fs_n (by omega) (fs_n (by omega) rfl)))) s101_ (by first | exact fs_rg rfl | exact fun r j hj => (fs_n (by omega) rfl))) s129_ (by first | exact fs_rg rfl | exact fun r j hj => (fs_n (by omega) rfl))) s139_ (by first | exact fs_rg rfl | exact fun r j hj => (fs_n (by omega) (fs_n (by omega) rfl)))) s149_ (by first | exact fs_rg rfl | exact fun r j hj => (fs_n (by omega) (fs_n (by omega) rfl)))) s159_ (by first | exact fs_rg rfl | exact fun r j hj => (fs_n (by omega) (fs_n (by omega) rfl)))) s815_ (by first | exact fs_rg rfl | exact fun r j hj => (fs_n (by omega) (fs_n (by omega) rfl)))) s958_ (by first | exact fs_rg rfl | exact fun r j hj => (fs_n (by omega) (fs_n (by omega) rfl)))) s968_ (by first | exact fs_rg rfl | exact fun r j hj => (fs_n (by omega) (fs_n (by omega) rfl)))) s978_ (by first | exact fs_rg rfl | exact fun r j hj => (fs_n (by omega) (fs_n (by omega) (fs_n (by omega) (fs_n (by omega) rfl)))))) s988_ (by first | exact fs_rg rfl | exact fun r j hj => (fs_n (by omega) (fs_n (by omega) rfl)))) s998_ (by first | exact fs_rg rfl | exact fun r j hj => (fs_n (by omega) (fs_n (by omega) rfl)))) s1008_ (by first | exact fs_rg rfl | exact fun r j hj => (fs_n (by omega) (fs_n (by omega) rfl)))) (by first | decide | exact nc_ rfl | omega)))) (rfl) (⟨by omega, by omega⟩) ((by rw [q1012_]; exact (rpn_u (rpn_fs (rpn_fs (rpn_fs (rpn_fs (rpn_fs (rpn_fs (rpn_fs (rpn_fs (rpn_fs (rpn_fs (rpn_fs (rpn_fs (rpn_fs (rpn_fs (rpn_fs (rpn_fs (rpn_fs (rpn_fs (rpn_fs (rpn_fs (rpn_fs hpl s8_ (fun _ => (by first | exact fs_c rfl | exact (fs_n (by omega) (fs_n (by omega) rfl)))) (by first | exact fs_c rfl | exact (fs_n (by omega) (fs_n (by omega) rfl)))) s18_ (fun _ => (by first | exact fs_c rfl | exact (fs_n (by omega) (fs_n (by omega) rfl)))) (by first | exact fs_c rfl | exact (fs_n (by omega) (fs_n (by omega) rfl)))) s28_ (fun _ => (by first | exact fs_c rfl | exact (fs_n (by omega) (fs_n (by omega) rfl)))) (by first | exact fs_c rfl | exact (fs_n (by omega) (fs_n (by omega) rfl)))) s38_ (fun _ => (by first | exact fs_c rfl | exact (fs_n (by omega) (fs_n (by omega) rfl)))) (by first | exact fs_c rfl | exact (fs_n (by omega) (fs_n (by omega) rfl)))) s50_ (fun _ => (by first | exact fs_c rfl | exact (fs_n (by omega) rfl))) (by first | exact fs_c rfl | exact (fs_n (by omega) rfl))) s59_ (fun _ => (by first | exact fs_c rfl | exact (fs_n (by omega) rfl))) (by first | exact fs_c rfl | exact (fs_n (by omega) rfl))) s69_ (fun _ => (by first | exact fs_c rfl | exact (fs_n (by omega) (fs_n (by omega) rfl)))) (by first | exact fs_c rfl | exact (fs_n (by omega) (fs_n (by omega) rfl)))) s79_ (fun _ => (by first | exact fs_c rfl | exact (fs_n (by omega) (fs_n (by omega) rfl)))) (by first | exact fs_c rfl | exact (fs_n (by omega) (fs_n (by omega) rfl)))) s89_ (fun _ => (by first | exact fs_c rfl | exact (fs_n (by omega) (fs_n (by omega) rfl)))) (by first | exact fs_c rfl | exact (fs_n (by omega) (fs_n (by omega) rfl)))) s101_ (fun _ => (by first | exact fs_c rfl | exact (fs_n (by omega) rfl))) (by first | exact fs_c rfl | exact (fs_n (by omega) rfl))) s129_ (fun _ => (by first | exact fs_c rfl | exact (fs_n (by omega) rfl))) (by first | exact fs_c rfl | exact (fs_n (by omega) rfl))) s139_ (fun _ => (by first | exact fs_c rfl | exact (fs_n (by omega) (fs_n (by omega) rfl)))) (by first | exact fs_c rfl | exact (fs_n (by omega) (fs_n (by omega) rfl)))) s149_ (fun _ => (by first | exact fs_c rfl | exact (fs_n (by omega) (fs_n (by omega) rfl)))) (by first | exact fs_c rfl | exact (fs_n (by omega) (fs_n (by omega) rfl)))) s159_ (fun _ => (by first | exact fs_c rfl | exact (fs_n (by omega) (fs_n (by omega) rfl)))) (by first | exact fs_c rfl | exact (fs_n (by omega) (fs_n (by omega) rfl)))) s815_ (fun _ => (by first | exact fs_c rfl | exact (fs_n (by omega) (fs_n (by omega) rfl)))) (by first | exact fs_c rfl | exact (fs_n (by omega) (fs_n (by omega) rfl)))) s958_ (fun _ => (by first | exact fs_c rfl | exact (fs_n (by omega) (fs_n (by omega) rfl)))) (by first | exact fs_c rfl | exact (fs_n (by omega) (fs_n (by omega) rfl)))) s968_ (fun _ => (by first | exact fs_c rfl | exact (fs_n (by omega) (fs_n (by omega) rfl)))) (by first | exact fs_c rfl | exact (fs_n (by omega) (fs_n (by omega) rfl)))) s978_ (fun _ => (by first | exact fs_c rfl | exact (fs_n (by omega) (fs_n (by omega) (fs_n (by omega) (fs_n (by omega) rfl)))))) (by first | exact fs_c rfl | exact (fs_n (by omega) (fs_n (by omega) (fs_n (by omega) (fs_n (by omega) rfl)))))) s988_ (fun _ => (by first | exact fs_c rfl | exact (fs_n (by omega) (fs_n (by omega) rfl)))) (by first | exact fs_c rfl | exact (fs_n (by omega) (fs_n (by omega) rfl)))) s998_ (fun _ => (by first | exact fs_c rfl | exact (fs_n (by omega) (fs_n (by omega) rfl)))) (by first | exact fs_c rfl | exact (fs_n (by omega) (fs_n (by omega) rfl)))) s1008_ (fun _ => (by first | exact fs_c rfl | exact (fs_n (by omega) (fs_n (by omega) rfl)))) (by first | exact fs_c rfl | exact (fs_n (by omega) (fs_n (by omega) rfl)))) (by first | decide | exact nc_ rfl | omega) (by first | decide | exact nc_ rfl | omega)))) (⟨(by rw [q1012_]; exact (rprd_u (rprd_fs (rprd_fs (rprd_fs (rprd_fs (rprd_fs (rprd_fs (rprd_fs (rprd_fs (rprd_fs (rprd_fs (rprd_fs (rprd_fs (rprd_fs (rprd_fs (rprd_fs (rprd_fs (rprd_fs (rprd_fs (rprd_fs (rprd_fs (rprd_fs hps.1 s8_ (by first | exact fs_rg rfl | exact fun r j hj => (fs_n (by omega) (fs_n (by omega) rfl)))) s18_ (by first | exact fs_rg rfl | exact fun r j hj => (fs_n (by omega) (fs_n (by omega) rfl)))) s28_ (by first | exact fs_rg rfl | exact fun r j hj => (fs_n (by omega) (fs_n (by omega) rfl)))) s38_ (by first | exact fs_rg rfl | exact fun r j hj => (fs_n (by omega) (fs_n (by omega) rfl)))) s50_ (by first | exact fs_rg rfl | exact fun r j hj => (fs_n (by omega) rfl))) s59_ (by first | exact fs_rg rfl | exact fun r j hj => (fs_n (by omega) rfl))) s69_ (by first | exact fs_rg rfl | exact fun r j hj => (fs_n (by omega) (fs_n (by omega) rfl)))) s79_ (by first | exact fs_rg rfl | exact fun r j hj => (fs_n (by omega) (fs_n (by omega) rfl)))) s89_ (by first | exact fs_rg rfl | exact fun r j hj => (fs_n (by omega) (fs_n (by omega) rfl)))) s101_ (by first | exact fs_rg rfl | exact fun r j hj => (fs_n (by omega) rfl))) s129_ (by first | exact fs_rg rfl | exact fun r j hj => (fs_n (by omega) rfl))) s139_ (by first | exact fs_rg rfl | exact fun r j hj => (fs_n (by omega) (fs_n (by omega) rfl)))) s149_ (by first | exact fs_rg rfl | exact fun r j hj => (fs_n (by omega) (fs_n (by omega) rfl)))) s159_ (by first | exact fs_rg rfl | exact fun r j hj => (fs_n (by omega) (fs_n (by omega) rfl)))) s815_ (by first | exact fs_rg rfl | exact fun r j hj => (fs_n (by omega) (fs_n (by omega) rfl)))) s958_ (by first | exact fs_rg rfl | exact fun r j hj => (fs_n (by omega) (fs_n (by omega) rfl)))) s968_ (by first | exact fs_rg rfl | exact fun r j hj => (fs_n (by omega) (fs_n (by omega) rfl)))) s978_ (by first | exact fs_rg rfl | exact fun r j hj => (fs_n (by omega) (fs_n (by omega) (fs_n (by omega) (fs_n (by omega) rfl)))))) s988_ (by first | exact fs_rg rfl | exact fun r j hj => (fs_n (by omega) (fs_n (by omega) rfl)))) s998_ (by first | exact fs_rg rfl | exact fun r j hj => (fs_n (by omega) (fs_n (by omega) rfl)))) s1008_ (by first | exact fs_rg rfl | exact fun r j hj => (fs_n (by omega) (fs_n (by omega) rfl)))) (by first | decide | exact nc_ rfl | omega))), hps.2⟩) (⟨by omega, by omega⟩) (Or.inr (by omega)) (by rw [q1012_]; exact fl_u_eq)) (fun _ _ h => False.elim h) ?_
      have e1019_ : F1011_ 344 9 = F1006_ 344 9 := by rw [q1012_]; exact fl_u_ne (by first | exact nc_ rfl | decide | omega)
      have b1020_ : 0 ≤ F1006_ 344 9 ∧ F1006_ 344 9 ≤ 5 := gi_g g1007_ rfl
      rintro A1_ ⟨F1023_, hA_, g1024_, s1025_, c1021_, c1022_⟩
      subst hA_
      have g1026_ : fs [(344, 344, 5, 5), (344, 344, 9, 10), (344, 344, 33, 33), (344, 344, 36, 36), (344, 344, 64, 64), (358, 358, 0, 100000), (360, 366, 0, 100000)] F F1023_ := fs_tr g1014_ s1025_ rfl
      have rk1027_ : rk K F1023_ := rk_fs rk1015_ s1025_ (fs_rg rfl) rfl
      try simp only [e1019_] at c1021_
      refine ga_aload_n (v := .ref 344) hm_184 rfl rfl rfl ?_
      refine fl_bipush hm_184 rfl rfl ?_
      have b1028_ : 0 ≤ F1023_ 344 5 ∧ F1023_ 344 5 ≤ 600 := gi_g g1024_ rfl
      refine gVv (nY := 2) (F := 2) (L := 41) (As := [.int (Int32.ofInt 41)]) (b := 344) (rest := []) hm_184 rfl hm_51 rfl rfl (fl_ob sc_344) rfl rfl rfl rfl rfl (by omega) (by omega) (mc_51s hG F1023_ X g1024_ (K) (41) (1) hgK rk1027_ hkt (⟨by omega, by omega⟩) (by omega) (by omega)) (fun _ _ h => False.elim h) ?_
      have b1030_ : 0 ≤ F1023_ 344 9 ∧ F1023_ 344 9 ≤ 5 := gi_g g1024_ rfl
      rintro A1_ ⟨F1033_, hA_, g1034_, s1035_, c1031_, c1032_⟩
      subst hA_
      have g1036_ : fs [(344, 344, 5, 5), (344, 344, 9, 10), (344, 344, 33, 33), (344, 344, 36, 36), (344, 344, 64, 64), (358, 358, 0, 100000), (360, 366, 0, 100000)] F F1033_ := fs_tr g1026_ s1035_ rfl
      have rk1037_ : rk K F1033_ := rk_fs rk1027_ s1035_ (fs_rg rfl) rfl
      refine ga_aload_n (v := .ref 344) hm_184 rfl rfl rfl ?_
      refine fl_bipush hm_184 rfl rfl ?_
      have b1038_ : 0 ≤ F1033_ 344 5 ∧ F1033_ 344 5 ≤ 600 := gi_g g1034_ rfl
      refine gVv (nY := 2) (F := 2) (L := 41) (As := [.int (Int32.ofInt 41)]) (b := 344) (rest := []) hm_184 rfl hm_51 rfl rfl (fl_ob sc_344) rfl rfl rfl rfl rfl (by omega) (by omega) (mc_51s hG F1033_ X g1034_ (K) (41) (1) hgK rk1037_ hkt (⟨by omega, by omega⟩) (by omega) (by omega)) (fun _ _ h => False.elim h) ?_
      have b1040_ : 0 ≤ F1033_ 344 9 ∧ F1033_ 344 9 ≤ 5 := gi_g g1034_ rfl
      rintro A1_ ⟨F1043_, hA_, g1044_, s1045_, c1041_, c1042_⟩
      subst hA_
      have g1046_ : fs [(344, 344, 5, 5), (344, 344, 9, 10), (344, 344, 33, 33), (344, 344, 36, 36), (344, 344, 64, 64), (358, 358, 0, 100000), (360, 366, 0, 100000)] F F1043_ := fs_tr g1036_ s1045_ rfl
      have rk1047_ : rk K F1043_ := rk_fs rk1037_ s1045_ (fs_rg rfl) rfl
      refine ga_aload_n (v := .ref 344) hm_184 rfl rfl rfl ?_
      refine gIi (nY := 1) (F := 0) (L := 0) (As := []) (b := 344) (rest := []) hm_184 rfl hm_59 rfl rfl (fl_ob sc_344) rfl rfl rfl rfl rfl (by omega) (by omega) ?_
      intro f1048_ l1049_ h1050_ h1051_
      show fl_R xi_ms 59 f1048_ l1049_ 0 [(0, .ref 344)] [] _ _
      refine ga_aload_n (v := .ref 344) hm_59 rfl rfl rfl ?_
      have b1052_ : 0 ≤ F1043_ 344 9 ∧ F1043_ 344 9 ≤ 5 := gi_g g1044_ rfl
      refine ga_geti (z := F1043_ 344 9) hm_59 rfl sc_344 rfl (rfl) ?_
      refine fl_if_le (a := F1043_ 344 9) hm_59 rfl ⟨by omega, by omega⟩ (fun h1053_ => ?_) (fun h1054_ => ?_)
      ·
        refine fl_iconst hm_59 rfl ?_
        refine gr_i hm_59 rfl rfl (ga_nb (by omega)) ?_
        clear h1050_ h1051_ f1048_ l1049_
        refine fl_if_ne hm_184 rfl ⟨by omega, by omega⟩ (fun h => absurd h (by omega)) (fun _ => ?_)
        refine ga_aload_n (v := .ref 344) hm_184 rfl rfl rfl ?_
        have b1055_ : 0 ≤ F1043_ 344 5 ∧ F1043_ 344 5 ≤ 600 := gi_g g1044_ rfl
        refine ga_geti (z := F1043_ 344 5) hm_184 rfl sc_344 rfl (rfl) ?_
        refine ga_aload_n (v := .ref 344) hm_184 rfl rfl rfl ?_
        have e1056_ : F1043_ 344 4 = K 1 6 - 1 := rk1047_.2.1
        refine ga_geti (z := K 1 6 - 1) hm_184 rfl sc_344 rfl (e1056_) ?_
        refine fl_icmp_ge (a := F1043_ 344 5) (b := K 1 6 - 1) hm_184 rfl ⟨by omega, by omega⟩ ⟨by omega, by omega⟩ (fun h1057_ => ?_) (fun h1058_ => ?_)
        ·
          refine gr_v hm_184 rfl rfl ?_
          exact ⟨F1043_, rfl, g1044_, g1046_, (⟨by omega, by omega⟩)⟩
        refine ga_aload_n (v := .ref 344) hm_184 rfl rfl rfl ?_
        refine fl_iconst hm_184 rfl ?_
        refine gVv (nY := 2) (F := 0) (L := 0) (As := [.int (Int32.ofInt 1)]) (b := 344) (rest := []) hm_184 rfl hm_54 rfl rfl (fl_ob sc_344) rfl rfl rfl rfl rfl (by omega) (by omega) (mc_54 hG F1043_ X g1044_ (K) (1) hgK rk1047_ hkt (⟨by omega, by omega⟩) (⟨by omega, by omega⟩)) (fun _ _ h => False.elim h) ?_
        have b1060_ : 0 ≤ F1043_ 344 10 ∧ F1043_ 344 10 ≤ 600 := gi_g g1044_ rfl
        rintro A1_ ⟨F1064_, hA_, g1065_, s1066_, c1061_, c1062_, c1063_⟩
        subst hA_
        have g1067_ : fs [(344, 344, 5, 5), (344, 344, 9, 10), (344, 344, 33, 33), (344, 344, 36, 36), (344, 344, 64, 64), (358, 358, 0, 100000), (360, 366, 0, 100000)] F F1064_ := fs_tr g1046_ s1066_ rfl
        have rk1068_ : rk K F1064_ := rk_fs rk1047_ s1066_ (fs_rg rfl) rfl
        have c1062_s := c1062_.1 (by omega)
        clear c1062_
        refine gr_v hm_184 rfl rfl ?_
        have e1069_ : F1064_ 344 5 = F1043_ 344 5 := (s1066_ 344 5 rfl).trans (rfl)
        exact ⟨F1064_, rfl, g1065_, g1067_, (⟨by omega, by omega⟩)⟩
      refine fl_iconst hm_59 rfl ?_
      refine fl_goto hm_59 rfl ?_
      refine gr_i hm_59 rfl rfl (ga_nb (by omega)) ?_
      clear h1050_ h1051_ f1048_ l1049_
      refine fl_if_ne hm_184 rfl ⟨by omega, by omega⟩ (fun _ => ?_) (fun h => absurd (by omega) h)
      refine gr_v hm_184 rfl rfl ?_
      have b1070_ : 0 ≤ F1043_ 344 5 ∧ F1043_ 344 5 ≤ 600 := gi_g g1044_ rfl
      exact ⟨F1043_, rfl, g1044_, g1046_, (⟨by omega, by omega⟩)⟩
    refine ga_aload_n (v := .ref 344) hm_184 rfl rfl rfl ?_
    refine fl_iconst hm_184 rfl ?_
    have e1071_ : F99_ 344 5 = F87_ 344 5 := (s101_ 344 5 rfl).trans (rfl)
    refine gVv (nY := 2) (F := 0) (L := 0) (As := [.int (Int32.ofInt 3)]) (b := 344) (rest := []) hm_184 rfl hm_54 rfl rfl (fl_ob sc_344) rfl rfl rfl rfl rfl (by omega) (by omega) (mc_54 hG F99_ X g100_ (K) (3) hgK rk103_ hkt (⟨by omega, by omega⟩) (⟨by omega, by omega⟩)) (fun _ _ h => False.elim h) ?_
    have b1073_ : 0 ≤ F99_ 344 10 ∧ F99_ 344 10 ≤ 600 := gi_g g100_ rfl
    rintro A1_ ⟨F1077_, hA_, g1078_, s1079_, c1074_, c1075_, c1076_⟩
    subst hA_
    have g1080_ : fs [(344, 344, 5, 5), (344, 344, 9, 10), (344, 344, 33, 33), (344, 344, 36, 36), (344, 344, 64, 64), (358, 358, 0, 100000), (360, 366, 0, 100000)] F F1077_ := fs_tr g102_ s1079_ rfl
    have rk1081_ : rk K F1077_ := rk_fs rk103_ s1079_ (fs_rg rfl) rfl
    try simp only [e1071_] at c1075_
    try simp only [e1071_] at c1076_
    have c1075_s := c1075_.1 (by omega)
    clear c1075_
    refine ga_aload_n (v := .ref 344) hm_184 rfl rfl rfl ?_
    have e1082_ : F1077_ 344 5 = F87_ 344 5 := (s1079_ 344 5 rfl).trans (e1071_)
    have b1083_ : 0 ≤ F1077_ 344 9 ∧ F1077_ 344 9 ≤ 5 := gi_g g1078_ rfl
    refine gVv (nY := 1) (F := 1) (L := 20) (As := []) (b := 344) (rest := []) hm_184 rfl hm_61 rfl rfl (fl_ob sc_344) rfl rfl rfl rfl rfl (by omega) (by omega) (mc_61s hG F1077_ X g1078_ (K) hgK rk1081_ hkt (⟨by omega, by omega⟩) (by omega)) (fun _ _ h => False.elim h) ?_
    rintro A1_ ⟨F1086_, hA_, g1087_, s1088_, c1085_⟩
    subst hA_
    have g1089_ : fs [(344, 344, 5, 5), (344, 344, 9, 10), (344, 344, 33, 33), (344, 344, 36, 36), (344, 344, 64, 64), (358, 358, 0, 100000), (360, 366, 0, 100000)] F F1086_ := fs_tr g1080_ s1088_ rfl
    have rk1090_ : rk K F1086_ := rk_fs rk1081_ s1088_ (fs_rg rfl) rfl
    refine ga_aload_n (v := .ref 344) hm_184 rfl rfl rfl ?_
    refine fl_bipush hm_184 rfl rfl ?_
    have b1091_ : 0 ≤ F1086_ 344 5 ∧ F1086_ 344 5 ≤ 600 := gi_g g1087_ rfl
    refine gVv (nY := 2) (F := 2) (L := 41) (As := [.int (Int32.ofInt 41)]) (b := 344) (rest := []) hm_184 rfl hm_51 rfl rfl (fl_ob sc_344) rfl rfl rfl rfl rfl (by omega) (by omega) (mc_51s hG F1086_ X g1087_ (K) (41) (1) hgK rk1090_ hkt (⟨by omega, by omega⟩) (by omega) (by omega)) (fun _ _ h => False.elim h) ?_
    have e1093_ : F1086_ 344 9 = F1077_ 344 9 := (s1088_ 344 9 rfl).trans (rfl)
    rintro A1_ ⟨F1096_, hA_, g1097_, s1098_, c1094_, c1095_⟩
    subst hA_
    have g1099_ : fs [(344, 344, 5, 5), (344, 344, 9, 10), (344, 344, 33, 33), (344, 344, 36, 36), (344, 344, 64, 64), (358, 358, 0, 100000), (360, 366, 0, 100000)] F F1096_ := fs_tr g1089_ s1098_ rfl
    have rk1100_ : rk K F1096_ := rk_fs rk1090_ s1098_ (fs_rg rfl) rfl
    try simp only [e1093_] at c1094_
    refine ga_aload_n (v := .ref 344) hm_184 rfl rfl rfl ?_
    refine fl_bipush hm_184 rfl rfl ?_
    have b1101_ : 0 ≤ F1096_ 344 5 ∧ F1096_ 344 5 ≤ 600 := gi_g g1097_ rfl
    refine gVv (nY := 2) (F := 2) (L := 41) (As := [.int (Int32.ofInt 40)]) (b := 344) (rest := []) hm_184 rfl hm_51 rfl rfl (fl_ob sc_344) rfl rfl rfl rfl rfl (by omega) (by omega) (mc_51s hG F1096_ X g1097_ (K) (40) (0) hgK rk1100_ hkt (⟨by omega, by omega⟩) (by omega) (by omega)) (fun _ _ h => False.elim h) ?_
    have b1103_ : 0 ≤ F1096_ 344 9 ∧ F1096_ 344 9 ≤ 5 := gi_g g1097_ rfl
    rintro A1_ ⟨F1106_, hA_, g1107_, s1108_, c1104_, c1105_⟩
    subst hA_
    have g1109_ : fs [(344, 344, 5, 5), (344, 344, 9, 10), (344, 344, 33, 33), (344, 344, 36, 36), (344, 344, 64, 64), (358, 358, 0, 100000), (360, 366, 0, 100000)] F F1106_ := fs_tr g1099_ s1108_ rfl
    have rk1110_ : rk K F1106_ := rk_fs rk1100_ s1108_ (fs_rg rfl) rfl
    refine ga_aload_n (v := .ref 344) hm_184 rfl rfl rfl ?_
    refine fl_bipush hm_184 rfl rfl ?_
    have b1111_ : 0 ≤ F1106_ 344 5 ∧ F1106_ 344 5 ≤ 600 := gi_g g1107_ rfl
    refine gVv (nY := 2) (F := 2) (L := 44) (As := [.int (Int32.ofInt 15)]) (b := 344) (rest := []) hm_184 rfl hm_55 rfl rfl (fl_ob sc_344) rfl rfl rfl rfl rfl (by omega) (by omega) (mc_55s hG F1106_ X g1107_ (K) (15) ([58, 111, 98, 106, 101, 99, 116, 115]) hgK rk1110_ hkt (⟨by omega, by omega⟩) (⟨by omega, by omega⟩) (by decide) (kw_15 rk1110_)) (fun _ _ h => False.elim h) ?_
    have b1113_ : 0 ≤ F1106_ 344 9 ∧ F1106_ 344 9 ≤ 5 := gi_g g1107_ rfl
    rintro A1_ ⟨F1116_, hA_, g1117_, s1118_, c1114_, c1115_⟩
    subst hA_
    have g1119_ : fs [(344, 344, 5, 5), (344, 344, 9, 10), (344, 344, 33, 33), (344, 344, 36, 36), (344, 344, 64, 64), (358, 358, 0, 100000), (360, 366, 0, 100000)] F F1116_ := fs_tr g1109_ s1118_ rfl
    have rk1120_ : rk K F1116_ := rk_fs rk1110_ s1118_ (fs_rg rfl) rfl
    have b1121_ : 0 ≤ F1116_ 344 9 ∧ F1116_ 344 9 ≤ 5 := gi_g g1117_ rfl
    by_cases h1122_ : F1116_ 344 9 = 0
    ·
      refine fl_iconst hm_184 rfl ?_
      refine ga_istore_n (lv2 := [(3, .int (Int32.ofInt 1)), (1, .long (Int64.ofInt z93_)), (0, .ref 344)]) hm_184 rfl (Nat.le_of_ble_eq_true rfl) rfl ?_
      have L1124_ : ∀ (n1123_ : Nat) (mo : Int) (l : List Int) (tl : List Int) (F1 : fl_N), (7 - F1 344 33 : Int).toNat = n1123_ → (gi F1) → (fs [(344, 344, 5, 5), (344, 344, 9, 10), (344, 344, 33, 33), (364, 365, 0, 100000)] F1116_ F1) → (F1 344 9 = 0) → (0 ≤ mo ∧ mo ≤ 1) → (0 ≤ F1 344 5 ∧ F1 344 5 ≤ K 1 6 - 1) → (trm F1 5 2 l tl ∧ l.length = tl.length) → fl_R xi_ms 184 fr lo 100 [(3, .int (Int32.ofInt mo)), (1, .long (Int64.ofInt z93_)), (0, .ref 344)] [] (fl_H sh_T G F1 ++ X) (pq_184 G F X K ts pl ps) := by
        intro n1123_
        induction n1123_ using Nat.strongRecOn with
        | ind n1123_ ih1125_ =>
        intro mo l tl F1 hn1126_ hg_F1 hf_F1 hk hmo hp1 ht1
        have g1127_ : fs [(344, 344, 5, 5), (344, 344, 9, 10), (344, 344, 33, 33), (344, 344, 36, 36), (344, 344, 64, 64), (358, 358, 0, 100000), (360, 366, 0, 100000)] F F1 := fs_tr g1119_ hf_F1 rfl
        have rk1128_ : rk K F1 := rk_fs rk1120_ hf_F1 (fs_rg rfl) rfl
        have hP1 := (rkt_p hkt (p := F1 344 5) (by omega) (by omega) hgK).1
        have hb33 : 0 ≤ F1 344 33 ∧ F1 344 33 ≤ 6 := gi_g hg_F1 rfl
        refine ga_iload_n (z := mo) hm_184 rfl rfl ?_
        refine fl_if_eq (a := mo) hm_184 rfl ⟨by omega, by omega⟩ (fun h1129_ => ?_) (fun h1130_ => ?_)
        ·
          refine ga_aload_n (v := .ref 344) hm_184 rfl rfl rfl ?_
          refine fl_bipush hm_184 rfl rfl ?_
          have b1131_ : 0 ≤ F1 344 5 ∧ F1 344 5 ≤ 600 := gi_g hg_F1 rfl
          refine gVv (nY := 2) (F := 2) (L := 41) (As := [.int (Int32.ofInt 41)]) (b := 344) (rest := []) hm_184 rfl hm_51 rfl rfl (fl_ob sc_344) rfl rfl rfl rfl rfl (by omega) (by omega) (mc_51s hG F1 X hg_F1 (K) (41) (1) hgK rk1128_ hkt (⟨by omega, by omega⟩) (by omega) (by omega)) (fun _ _ h => False.elim h) ?_
          have b1133_ : 0 ≤ F1 344 9 ∧ F1 344 9 ≤ 5 := gi_g hg_F1 rfl
          rintro A1_ ⟨F1136_, hA_, g1137_, s1138_, c1134_, c1135_⟩
          subst hA_
          have g1139_ : fs [(344, 344, 5, 5), (344, 344, 9, 10), (344, 344, 33, 33), (344, 344, 36, 36), (344, 344, 64, 64), (358, 358, 0, 100000), (360, 366, 0, 100000)] F F1136_ := fs_tr g1127_ s1138_ rfl
          have rk1140_ : rk K F1136_ := rk_fs rk1128_ s1138_ (fs_rg rfl) rfl
          refine ga_aload_n (v := .ref 344) hm_184 rfl rfl rfl ?_
          refine gIi (nY := 1) (F := 0) (L := 0) (As := []) (b := 344) (rest := []) hm_184 rfl hm_59 rfl rfl (fl_ob sc_344) rfl rfl rfl rfl rfl (by omega) (by omega) ?_
          intro f1141_ l1142_ h1143_ h1144_
          show fl_R xi_ms 59 f1141_ l1142_ 0 [(0, .ref 344)] [] _ _
          refine ga_aload_n (v := .ref 344) hm_59 rfl rfl rfl ?_
          have b1145_ : 0 ≤ F1136_ 344 9 ∧ F1136_ 344 9 ≤ 5 := gi_g g1137_ rfl
          refine ga_geti (z := F1136_ 344 9) hm_59 rfl sc_344 rfl (rfl) ?_
          refine fl_if_le (a := F1136_ 344 9) hm_59 rfl ⟨by omega, by omega⟩ (fun h1146_ => ?_) (fun h1147_ => ?_)
          ·
            refine fl_iconst hm_59 rfl ?_
            refine gr_i hm_59 rfl rfl (ga_nb (by omega)) ?_
            clear h1143_ h1144_ f1141_ l1142_
            refine fl_if_ne hm_184 rfl ⟨by omega, by omega⟩ (fun h => absurd h (by omega)) (fun _ => ?_)
            refine ga_aload_n (v := .ref 344) hm_184 rfl rfl rfl ?_
            refine gVv (nY := 6) (F := 1) (L := 22) (As := []) (b := 344) (rest := []) hm_184 rfl hm_171 rfl rfl (fl_ob sc_344) rfl rfl rfl rfl rfl (by omega) (by omega) (mc_171 hG F1136_ X g1137_) (fun _ _ h => False.elim h) ?_
            rintro A1_ ⟨F1149_, hA_, g1150_, s1151_⟩
            subst hA_
            have g1152_ : fs [(344, 344, 5, 5), (344, 344, 9, 10), (344, 344, 33, 33), (344, 344, 36, 36), (344, 344, 64, 64), (358, 358, 0, 100000), (360, 366, 0, 100000)] F F1149_ := fs_tr g1139_ s1151_ rfl
            have rk1153_ : rk K F1149_ := rk_fs rk1140_ s1151_ (fs_rg rfl) rfl
            refine ga_aload_n (v := .ref 344) hm_184 rfl rfl rfl ?_
            refine fl_bipush hm_184 rfl rfl ?_
            have e1154_ : F1149_ 344 5 = F1136_ 344 5 := (s1151_ 344 5 rfl).trans (rfl)
            have b1155_ : 0 ≤ F1136_ 344 5 ∧ F1136_ 344 5 ≤ 600 := gi_g g1137_ rfl
            refine gVv (nY := 2) (F := 2) (L := 41) (As := [.int (Int32.ofInt 40)]) (b := 344) (rest := []) hm_184 rfl hm_51 rfl rfl (fl_ob sc_344) rfl rfl rfl rfl rfl (by omega) (by omega) (mc_51s hG F1149_ X g1150_ (K) (40) (0) hgK rk1153_ hkt (⟨by omega, by omega⟩) (by omega) (by omega)) (fun _ _ h => False.elim h) ?_
            have e1157_ : F1149_ 344 9 = F1136_ 344 9 := (s1151_ 344 9 rfl).trans (rfl)
            rintro A1_ ⟨F1160_, hA_, g1161_, s1162_, c1158_, c1159_⟩
            subst hA_
            have g1163_ : fs [(344, 344, 5, 5), (344, 344, 9, 10), (344, 344, 33, 33), (344, 344, 36, 36), (344, 344, 64, 64), (358, 358, 0, 100000), (360, 366, 0, 100000)] F F1160_ := fs_tr g1152_ s1162_ rfl
            have rk1164_ : rk K F1160_ := rk_fs rk1153_ s1162_ (fs_rg rfl) rfl
            try simp only [e1157_] at c1158_
            refine ga_aload_n (v := .ref 344) hm_184 rfl rfl rfl ?_
            refine fl_bipush hm_184 rfl rfl ?_
            have b1165_ : 0 ≤ F1160_ 344 5 ∧ F1160_ 344 5 ≤ 600 := gi_g g1161_ rfl
            refine gVv (nY := 2) (F := 2) (L := 44) (As := [.int (Int32.ofInt 16)]) (b := 344) (rest := []) hm_184 rfl hm_55 rfl rfl (fl_ob sc_344) rfl rfl rfl rfl rfl (by omega) (by omega) (mc_55s hG F1160_ X g1161_ (K) (16) ([58, 105, 110, 105, 116]) hgK rk1164_ hkt (⟨by omega, by omega⟩) (⟨by omega, by omega⟩) (by decide) (kw_16 rk1164_)) (fun _ _ h => False.elim h) ?_
            have b1167_ : 0 ≤ F1160_ 344 9 ∧ F1160_ 344 9 ≤ 5 := gi_g g1161_ rfl
            rintro A1_ ⟨F1170_, hA_, g1171_, s1172_, c1168_, c1169_⟩
            subst hA_
            have g1173_ : fs [(344, 344, 5, 5), (344, 344, 9, 10), (344, 344, 33, 33), (344, 344, 36, 36), (344, 344, 64, 64), (358, 358, 0, 100000), (360, 366, 0, 100000)] F F1170_ := fs_tr g1163_ s1172_ rfl
            have rk1174_ : rk K F1170_ := rk_fs rk1164_ s1172_ (fs_rg rfl) rfl
            refine ga_aload_n (v := .ref 344) hm_184 rfl rfl rfl ?_
            have b1175_ : 0 ≤ F1170_ 344 5 ∧ F1170_ 344 5 ≤ 600 := gi_g g1171_ rfl
            refine gVv (nY := 2) (F := 5) (L := 117) (As := []) (b := 344) (rest := []) hm_184 rfl hm_178 rfl rfl (fl_ob sc_344) rfl rfl rfl rfl rfl (by omega) (by omega) (mc_178 hG F1170_ X g1171_ (K) (l) (tl) (pl) (ps) hgK rk1174_ hkt (⟨by omega, by omega⟩) ((trm_fs (trm_fs (trm_fs (trm_fs ht1.1 s1138_ (by first | exact fs_rg rfl | exact fun r j hj => (fs_n (by omega) (fs_n (by omega) rfl)))) s1151_ (by first | exact fs_rg rfl | exact fun r j hj => (fs_n (by omega) (fs_n (by omega) rfl)))) s1162_ (by first | exact fs_rg rfl | exact fun r j hj => (fs_n (by omega) (fs_n (by omega) rfl)))) s1172_ (by first | exact fs_rg rfl | exact fun r j hj => (fs_n (by omega) (fs_n (by omega) rfl))))) (ht1.2) ((rpn_fs (rpn_fs (rpn_fs (rpn_fs (rpn_fs (rpn_fs (rpn_fs (rpn_fs (rpn_fs (rpn_fs (rpn_fs (rpn_fs (rpn_fs (rpn_fs (rpn_fs (rpn_fs (rpn_fs (rpn_fs (rpn_fs (rpn_fs hpl s8_ (fun _ => (by first | exact fs_c rfl | exact (fs_n (by omega) (fs_n (by omega) rfl)))) (by first | exact fs_c rfl | exact (fs_n (by omega) (fs_n (by omega) rfl)))) s18_ (fun _ => (by first | exact fs_c rfl | exact (fs_n (by omega) (fs_n (by omega) rfl)))) (by first | exact fs_c rfl | exact (fs_n (by omega) (fs_n (by omega) rfl)))) s28_ (fun _ => (by first | exact fs_c rfl | exact (fs_n (by omega) (fs_n (by omega) rfl)))) (by first | exact fs_c rfl | exact (fs_n (by omega) (fs_n (by omega) rfl)))) s38_ (fun _ => (by first | exact fs_c rfl | exact (fs_n (by omega) (fs_n (by omega) rfl)))) (by first | exact fs_c rfl | exact (fs_n (by omega) (fs_n (by omega) rfl)))) s50_ (fun _ => (by first | exact fs_c rfl | exact (fs_n (by omega) rfl))) (by first | exact fs_c rfl | exact (fs_n (by omega) rfl))) s59_ (fun _ => (by first | exact fs_c rfl | exact (fs_n (by omega) rfl))) (by first | exact fs_c rfl | exact (fs_n (by omega) rfl))) s69_ (fun _ => (by first | exact fs_c rfl | exact (fs_n (by omega) (fs_n (by omega) rfl)))) (by first | exact fs_c rfl | exact (fs_n (by omega) (fs_n (by omega) rfl)))) s79_ (fun _ => (by first | exact fs_c rfl | exact (fs_n (by omega) (fs_n (by omega) rfl)))) (by first | exact fs_c rfl | exact (fs_n (by omega) (fs_n (by omega) rfl)))) s89_ (fun _ => (by first | exact fs_c rfl | exact (fs_n (by omega) (fs_n (by omega) rfl)))) (by first | exact fs_c rfl | exact (fs_n (by omega) (fs_n (by omega) rfl)))) s101_ (fun _ => (by first | exact fs_c rfl | exact (fs_n (by omega) rfl))) (by first | exact fs_c rfl | exact (fs_n (by omega) rfl))) s1079_ (fun _ => (by first | exact fs_c rfl | exact (fs_n (by omega) rfl))) (by first | exact fs_c rfl | exact (fs_n (by omega) rfl))) s1088_ (fun _ => (by first | exact fs_c rfl | exact (fs_n (by omega) rfl))) (by first | exact fs_c rfl | exact (fs_n (by omega) rfl))) s1098_ (fun _ => (by first | exact fs_c rfl | exact (fs_n (by omega) (fs_n (by omega) rfl)))) (by first | exact fs_c rfl | exact (fs_n (by omega) (fs_n (by omega) rfl)))) s1108_ (fun _ => (by first | exact fs_c rfl | exact (fs_n (by omega) (fs_n (by omega) rfl)))) (by first | exact fs_c rfl | exact (fs_n (by omega) (fs_n (by omega) rfl)))) s1118_ (fun _ => (by first | exact fs_c rfl | exact (fs_n (by omega) (fs_n (by omega) rfl)))) (by first | exact fs_c rfl | exact (fs_n (by omega) (fs_n (by omega) rfl)))) hf_F1 (fun _ => (by first | exact fs_c rfl | exact (fs_n (by omega) (fs_n (by omega) (fs_n (by omega) (fs_n (by omega) rfl)))))) (by first | exact fs_c rfl | exact (fs_n (by omega) (fs_n (by omega) (fs_n (by omega) (fs_n (by omega) rfl)))))) s1138_ (fun _ => (by first | exact fs_c rfl | exact (fs_n (by omega) (fs_n (by omega) rfl)))) (by first | exact fs_c rfl | exact (fs_n (by omega) (fs_n (by omega) rfl)))) s1151_ (fun _ => (by first | exact fs_c rfl | exact (fs_n (by omega) (fs_n (by omega) rfl)))) (by first | exact fs_c rfl | exact (fs_n (by omega) (fs_n (by omega) rfl)))) s1162_ (fun _ => (by first | exact fs_c rfl | exact (fs_n (by omega) (fs_n (by omega) rfl)))) (by first | exact fs_c rfl | exact (fs_n (by omega) (fs_n (by omega) rfl)))) s1172_ (fun _ => (by first | exact fs_c rfl | exact (fs_n (by omega) (fs_n (by omega) rfl)))) (by first | exact fs_c rfl | exact (fs_n (by omega) (fs_n (by omega) rfl))))) (⟨(rprd_fs (rprd_fs (rprd_fs (rprd_fs (rprd_fs (rprd_fs (rprd_fs (rprd_fs (rprd_fs (rprd_fs (rprd_fs (rprd_fs (rprd_fs (rprd_fs (rprd_fs (rprd_fs (rprd_fs (rprd_fs (rprd_fs (rprd_fs hps.1 s8_ (by first | exact fs_rg rfl | exact fun r j hj => (fs_n (by omega) (fs_n (by omega) rfl)))) s18_ (by first | exact fs_rg rfl | exact fun r j hj => (fs_n (by omega) (fs_n (by omega) rfl)))) s28_ (by first | exact fs_rg rfl | exact fun r j hj => (fs_n (by omega) (fs_n (by omega) rfl)))) s38_ (by first | exact fs_rg rfl | exact fun r j hj => (fs_n (by omega) (fs_n (by omega) rfl)))) s50_ (by first | exact fs_rg rfl | exact fun r j hj => (fs_n (by omega) rfl))) s59_ (by first | exact fs_rg rfl | exact fun r j hj => (fs_n (by omega) rfl))) s69_ (by first | exact fs_rg rfl | exact fun r j hj => (fs_n (by omega) (fs_n (by omega) rfl)))) s79_ (by first | exact fs_rg rfl | exact fun r j hj => (fs_n (by omega) (fs_n (by omega) rfl)))) s89_ (by first | exact fs_rg rfl | exact fun r j hj => (fs_n (by omega) (fs_n (by omega) rfl)))) s101_ (by first | exact fs_rg rfl | exact fun r j hj => (fs_n (by omega) rfl))) s1079_ (by first | exact fs_rg rfl | exact fun r j hj => (fs_n (by omega) rfl))) s1088_ (by first | exact fs_rg rfl | exact fun r j hj => (fs_n (by omega) rfl))) s1098_ (by first | exact fs_rg rfl | exact fun r j hj => (fs_n (by omega) (fs_n (by omega) rfl)))) s1108_ (by first | exact fs_rg rfl | exact fun r j hj => (fs_n (by omega) (fs_n (by omega) rfl)))) s1118_ (by first | exact fs_rg rfl | exact fun r j hj => (fs_n (by omega) (fs_n (by omega) rfl)))) hf_F1 (by first | exact fs_rg rfl | exact fun r j hj => (fs_n (by omega) (fs_n (by omega) (fs_n (by omega) (fs_n (by omega) rfl)))))) s1138_ (by first | exact fs_rg rfl | exact fun r j hj => (fs_n (by omega) (fs_n (by omega) rfl)))) s1151_ (by first | exact fs_rg rfl | exact fun r j hj => (fs_n (by omega) (fs_n (by omega) rfl)))) s1162_ (by first | exact fs_rg rfl | exact fun r j hj => (fs_n (by omega) (fs_n (by omega) rfl)))) s1172_ (by first | exact fs_rg rfl | exact fun r j hj => (fs_n (by omega) (fs_n (by omega) rfl)))), hps.2⟩)) (fun _ _ h => False.elim h) ?_
            have b1177_ : 0 ≤ F1170_ 344 9 ∧ F1170_ 344 9 ≤ 5 := gi_g g1171_ rfl
            rintro A1_ ⟨F1180_, hA_, g1181_, s1182_, c1178_, c1179_⟩
            subst hA_
            have g1183_ : fs [(344, 344, 5, 5), (344, 344, 9, 10), (344, 344, 33, 33), (344, 344, 36, 36), (344, 344, 64, 64), (358, 358, 0, 100000), (360, 366, 0, 100000)] F F1180_ := fs_tr g1173_ s1182_ rfl
            have rk1184_ : rk K F1180_ := rk_fs rk1174_ s1182_ (fs_rg rfl) rfl
            refine ga_aload_n (v := .ref 344) hm_184 rfl rfl rfl ?_
            refine fl_bipush hm_184 rfl rfl ?_
            have b1185_ : 0 ≤ F1180_ 344 5 ∧ F1180_ 344 5 ≤ 600 := gi_g g1181_ rfl
            refine gVv (nY := 2) (F := 2) (L := 41) (As := [.int (Int32.ofInt 41)]) (b := 344) (rest := []) hm_184 rfl hm_51 rfl rfl (fl_ob sc_344) rfl rfl rfl rfl rfl (by omega) (by omega) (mc_51s hG F1180_ X g1181_ (K) (41) (1) hgK rk1184_ hkt (⟨by omega, by omega⟩) (by omega) (by omega)) (fun _ _ h => False.elim h) ?_
            have b1187_ : 0 ≤ F1180_ 344 9 ∧ F1180_ 344 9 ≤ 5 := gi_g g1181_ rfl
            rintro A1_ ⟨F1190_, hA_, g1191_, s1192_, c1188_, c1189_⟩
            subst hA_
            have g1193_ : fs [(344, 344, 5, 5), (344, 344, 9, 10), (344, 344, 33, 33), (344, 344, 36, 36), (344, 344, 64, 64), (358, 358, 0, 100000), (360, 366, 0, 100000)] F F1190_ := fs_tr g1183_ s1192_ rfl
            have rk1194_ : rk K F1190_ := rk_fs rk1184_ s1192_ (fs_rg rfl) rfl
            refine ga_aload_n (v := .ref 344) hm_184 rfl rfl rfl ?_
            refine fl_bipush hm_184 rfl rfl ?_
            have b1195_ : 0 ≤ F1190_ 344 5 ∧ F1190_ 344 5 ≤ 600 := gi_g g1191_ rfl
            refine gVv (nY := 2) (F := 2) (L := 41) (As := [.int (Int32.ofInt 40)]) (b := 344) (rest := []) hm_184 rfl hm_51 rfl rfl (fl_ob sc_344) rfl rfl rfl rfl rfl (by omega) (by omega) (mc_51s hG F1190_ X g1191_ (K) (40) (0) hgK rk1194_ hkt (⟨by omega, by omega⟩) (by omega) (by omega)) (fun _ _ h => False.elim h) ?_
            have b1197_ : 0 ≤ F1190_ 344 9 ∧ F1190_ 344 9 ≤ 5 := gi_g g1191_ rfl
            rintro A1_ ⟨F1200_, hA_, g1201_, s1202_, c1198_, c1199_⟩
            subst hA_
            have g1203_ : fs [(344, 344, 5, 5), (344, 344, 9, 10), (344, 344, 33, 33), (344, 344, 36, 36), (344, 344, 64, 64), (358, 358, 0, 100000), (360, 366, 0, 100000)] F F1200_ := fs_tr g1193_ s1202_ rfl
            have rk1204_ : rk K F1200_ := rk_fs rk1194_ s1202_ (fs_rg rfl) rfl
            refine ga_aload_n (v := .ref 344) hm_184 rfl rfl rfl ?_
            refine fl_bipush hm_184 rfl rfl ?_
            have b1205_ : 0 ≤ F1200_ 344 5 ∧ F1200_ 344 5 ≤ 600 := gi_g g1201_ rfl
            refine gVv (nY := 2) (F := 2) (L := 44) (As := [.int (Int32.ofInt 17)]) (b := 344) (rest := []) hm_184 rfl hm_55 rfl rfl (fl_ob sc_344) rfl rfl rfl rfl rfl (by omega) (by omega) (mc_55s hG F1200_ X g1201_ (K) (17) ([58, 103, 111, 97, 108]) hgK rk1204_ hkt (⟨by omega, by omega⟩) (⟨by omega, by omega⟩) (by decide) (kw_17 rk1204_)) (fun _ _ h => False.elim h) ?_
            have b1207_ : 0 ≤ F1200_ 344 9 ∧ F1200_ 344 9 ≤ 5 := gi_g g1201_ rfl
            rintro A1_ ⟨F1210_, hA_, g1211_, s1212_, c1208_, c1209_⟩
            subst hA_
            have g1213_ : fs [(344, 344, 5, 5), (344, 344, 9, 10), (344, 344, 33, 33), (344, 344, 36, 36), (344, 344, 64, 64), (358, 358, 0, 100000), (360, 366, 0, 100000)] F F1210_ := fs_tr g1203_ s1212_ rfl
            have rk1214_ : rk K F1210_ := rk_fs rk1204_ s1212_ (fs_rg rfl) rfl
            refine ga_aload_n (v := .ref 344) hm_184 rfl rfl rfl ?_
            refine ga_getr (b := 358) hm_184 rfl sc_344 rfl ?_
            refine fl_iconst hm_184 rfl ?_
            refine fl_iconst hm_184 rfl ?_
            refine fl_iast (z := 5) (v := 0) hm_184 rfl sc_358 (by omega) (by omega) (by omega) ?_
            refine ga_aload_n (v := .ref 344) hm_184 rfl rfl rfl ?_
            refine fl_iconst hm_184 rfl ?_
            refine fl_bipush hm_184 rfl rfl ?_
            obtain ⟨F1215_, q1216_⟩ : ∃ Fq_, Fq_ = (fl_u F1210_ 358 (5 : Int).toNat 0) := ⟨_, rfl⟩
            rw [← q1216_]
            have g1217_ : gi F1215_ := by rw [q1216_]; exact gi_u (g1211_) rfl (by omega) (by omega)
            have g1218_ : fs [(344, 344, 5, 5), (344, 344, 9, 10), (344, 344, 33, 33), (344, 344, 36, 36), (344, 344, 64, 64), (358, 358, 0, 100000), (360, 366, 0, 100000)] F F1215_ := by rw [q1216_]; exact fs_u (g1213_) rfl
            have rk1219_ : rk K F1215_ := by rw [q1216_]; exact rk_u (rk1214_) (by first | decide | exact nc_ rfl | omega) (by first | decide | exact nc_ rfl | omega)
            have e1220_ : F1215_ 344 5 = F1210_ 344 5 := by rw [q1216_]; exact fl_u_ne (by first | exact nc_ rfl | decide | omega)
            have b1221_ : 0 ≤ F1210_ 344 5 ∧ F1210_ 344 5 ≤ 600 := gi_g g1211_ rfl
            refine gVv (nY := 4) (F := 6) (L := 142) (As := [.int (Int32.ofInt 5), .int (Int32.ofInt 40)]) (b := 344) (rest := []) hm_184 rfl hm_175 rfl rfl (fl_ob sc_344) rfl rfl rfl rfl rfl (by omega) (by omega) (mc_175s hG F1215_ X g1217_ (K) (5) (40) (2) (l) (tl) (pl) (ps) hgK rk1219_ hkt (⟨by omega, by omega⟩) ((by rw [q1216_]; exact (trm_u (trm_fs (trm_fs (trm_fs (trm_fs (trm_fs (trm_fs (trm_fs (trm_fs ht1.1 s1138_ (by first | exact fs_rg rfl | exact fun r j hj => (fs_n (by omega) (fs_n (by omega) rfl)))) s1151_ (by first | exact fs_rg rfl | exact fun r j hj => (fs_n (by omega) (fs_n (by omega) rfl)))) s1162_ (by first | exact fs_rg rfl | exact fun r j hj => (fs_n (by omega) (fs_n (by omega) rfl)))) s1172_ (by first | exact fs_rg rfl | exact fun r j hj => (fs_n (by omega) (fs_n (by omega) rfl)))) s1182_ (by first | exact fs_rg rfl | exact fun r j hj => (fs_n (by omega) (fs_n (by omega) (fs_n (by omega) (fs_n (by omega) rfl)))))) s1192_ (by first | exact fs_rg rfl | exact fun r j hj => (fs_n (by omega) (fs_n (by omega) rfl)))) s1202_ (by first | exact fs_rg rfl | exact fun r j hj => (fs_n (by omega) (fs_n (by omega) rfl)))) s1212_ (by first | exact fs_rg rfl | exact fun r j hj => (fs_n (by omega) (fs_n (by omega) rfl)))) (by first | decide | exact nc_ rfl | omega)))) (ht1.2) (⟨by omega, by omega⟩) ((by rw [q1216_]; exact (rpn_u (rpn_fs (rpn_fs (rpn_fs (rpn_fs (rpn_fs (rpn_fs (rpn_fs (rpn_fs (rpn_fs (rpn_fs (rpn_fs (rpn_fs (rpn_fs (rpn_fs (rpn_fs (rpn_fs (rpn_fs (rpn_fs (rpn_fs (rpn_fs (rpn_fs (rpn_fs (rpn_fs (rpn_fs hpl s8_ (fun _ => (by first | exact fs_c rfl | exact (fs_n (by omega) (fs_n (by omega) rfl)))) (by first | exact fs_c rfl | exact (fs_n (by omega) (fs_n (by omega) rfl)))) s18_ (fun _ => (by first | exact fs_c rfl | exact (fs_n (by omega) (fs_n (by omega) rfl)))) (by first | exact fs_c rfl | exact (fs_n (by omega) (fs_n (by omega) rfl)))) s28_ (fun _ => (by first | exact fs_c rfl | exact (fs_n (by omega) (fs_n (by omega) rfl)))) (by first | exact fs_c rfl | exact (fs_n (by omega) (fs_n (by omega) rfl)))) s38_ (fun _ => (by first | exact fs_c rfl | exact (fs_n (by omega) (fs_n (by omega) rfl)))) (by first | exact fs_c rfl | exact (fs_n (by omega) (fs_n (by omega) rfl)))) s50_ (fun _ => (by first | exact fs_c rfl | exact (fs_n (by omega) rfl))) (by first | exact fs_c rfl | exact (fs_n (by omega) rfl))) s59_ (fun _ => (by first | exact fs_c rfl | exact (fs_n (by omega) rfl))) (by first | exact fs_c rfl | exact (fs_n (by omega) rfl))) s69_ (fun _ => (by first | exact fs_c rfl | exact (fs_n (by omega) (fs_n (by omega) rfl)))) (by first | exact fs_c rfl | exact (fs_n (by omega) (fs_n (by omega) rfl)))) s79_ (fun _ => (by first | exact fs_c rfl | exact (fs_n (by omega) (fs_n (by omega) rfl)))) (by first | exact fs_c rfl | exact (fs_n (by omega) (fs_n (by omega) rfl)))) s89_ (fun _ => (by first | exact fs_c rfl | exact (fs_n (by omega) (fs_n (by omega) rfl)))) (by first | exact fs_c rfl | exact (fs_n (by omega) (fs_n (by omega) rfl)))) s101_ (fun _ => (by first | exact fs_c rfl | exact (fs_n (by omega) rfl))) (by first | exact fs_c rfl | exact (fs_n (by omega) rfl))) s1079_ (fun _ => (by first | exact fs_c rfl | exact (fs_n (by omega) rfl))) (by first | exact fs_c rfl | exact (fs_n (by omega) rfl))) s1088_ (fun _ => (by first | exact fs_c rfl | exact (fs_n (by omega) rfl))) (by first | exact fs_c rfl | exact (fs_n (by omega) rfl))) s1098_ (fun _ => (by first | exact fs_c rfl | exact (fs_n (by omega) (fs_n (by omega) rfl)))) (by first | exact fs_c rfl | exact (fs_n (by omega) (fs_n (by omega) rfl)))) s1108_ (fun _ => (by first | exact fs_c rfl | exact (fs_n (by omega) (fs_n (by omega) rfl)))) (by first | exact fs_c rfl | exact (fs_n (by omega) (fs_n (by omega) rfl)))) s1118_ (fun _ => (by first | exact fs_c rfl | exact (fs_n (by omega) (fs_n (by omega) rfl)))) (by first | exact fs_c rfl | exact (fs_n (by omega) (fs_n (by omega) rfl)))) hf_F1 (fun _ => (by first | exact fs_c rfl | exact (fs_n (by omega) (fs_n (by omega) (fs_n (by omega) (fs_n (by omega) rfl)))))) (by first | exact fs_c rfl | exact (fs_n (by omega) (fs_n (by omega) (fs_n (by omega) (fs_n (by omega) rfl)))))) s1138_ (fun _ => (by first | exact fs_c rfl | exact (fs_n (by omega) (fs_n (by omega) rfl)))) (by first | exact fs_c rfl | exact (fs_n (by omega) (fs_n (by omega) rfl)))) s1151_ (fun _ => (by first | exact fs_c rfl | exact (fs_n (by omega) (fs_n (by omega) rfl)))) (by first | exact fs_c rfl | exact (fs_n (by omega) (fs_n (by omega) rfl)))) s1162_ (fun _ => (by first | exact fs_c rfl | exact (fs_n (by omega) (fs_n (by omega) rfl)))) (by first | exact fs_c rfl | exact (fs_n (by omega) (fs_n (by omega) rfl)))) s1172_ (fun _ => (by first | exact fs_c rfl | exact (fs_n (by omega) (fs_n (by omega) rfl)))) (by first | exact fs_c rfl | exact (fs_n (by omega) (fs_n (by omega) rfl)))) s1182_ (fun _ => (by first | exact fs_c rfl | exact (fs_n (by omega) (fs_n (by omega) (fs_n (by omega) (fs_n (by omega) rfl)))))) (by first | exact fs_c rfl | exact (fs_n (by omega) (fs_n (by omega) (fs_n (by omega) (fs_n (by omega) rfl)))))) s1192_ (fun _ => (by first | exact fs_c rfl | exact (fs_n (by omega) (fs_n (by omega) rfl)))) (by first | exact fs_c rfl | exact (fs_n (by omega) (fs_n (by omega) rfl)))) s1202_ (fun _ => (by first | exact fs_c rfl | exact (fs_n (by omega) (fs_n (by omega) rfl)))) (by first | exact fs_c rfl | exact (fs_n (by omega) (fs_n (by omega) rfl)))) s1212_ (fun _ => (by first | exact fs_c rfl | exact (fs_n (by omega) (fs_n (by omega) rfl)))) (by first | exact fs_c rfl | exact (fs_n (by omega) (fs_n (by omega) rfl)))) (by first | decide | exact nc_ rfl | omega) (by first | decide | exact nc_ rfl | omega)))) (⟨(by rw [q1216_]; exact (rprd_u (rprd_fs (rprd_fs (rprd_fs (rprd_fs (rprd_fs (rprd_fs (rprd_fs (rprd_fs (rprd_fs (rprd_fs (rprd_fs (rprd_fs (rprd_fs (rprd_fs (rprd_fs (rprd_fs (rprd_fs (rprd_fs (rprd_fs (rprd_fs (rprd_fs (rprd_fs (rprd_fs (rprd_fs hps.1 s8_ (by first | exact fs_rg rfl | exact fun r j hj => (fs_n (by omega) (fs_n (by omega) rfl)))) s18_ (by first | exact fs_rg rfl | exact fun r j hj => (fs_n (by omega) (fs_n (by omega) rfl)))) s28_ (by first | exact fs_rg rfl | exact fun r j hj => (fs_n (by omega) (fs_n (by omega) rfl)))) s38_ (by first | exact fs_rg rfl | exact fun r j hj => (fs_n (by omega) (fs_n (by omega) rfl)))) s50_ (by first | exact fs_rg rfl | exact fun r j hj => (fs_n (by omega) rfl))) s59_ (by first | exact fs_rg rfl | exact fun r j hj => (fs_n (by omega) rfl))) s69_ (by first | exact fs_rg rfl | exact fun r j hj => (fs_n (by omega) (fs_n (by omega) rfl)))) s79_ (by first | exact fs_rg rfl | exact fun r j hj => (fs_n (by omega) (fs_n (by omega) rfl)))) s89_ (by first | exact fs_rg rfl | exact fun r j hj => (fs_n (by omega) (fs_n (by omega) rfl)))) s101_ (by first | exact fs_rg rfl | exact fun r j hj => (fs_n (by omega) rfl))) s1079_ (by first | exact fs_rg rfl | exact fun r j hj => (fs_n (by omega) rfl))) s1088_ (by first | exact fs_rg rfl | exact fun r j hj => (fs_n (by omega) rfl))) s1098_ (by first | exact fs_rg rfl | exact fun r j hj => (fs_n (by omega) (fs_n (by omega) rfl)))) s1108_ (by first | exact fs_rg rfl | exact fun r j hj => (fs_n (by omega) (fs_n (by omega) rfl)))) s1118_ (by first | exact fs_rg rfl | exact fun r j hj => (fs_n (by omega) (fs_n (by omega) rfl)))) hf_F1 (by first | exact fs_rg rfl | exact fun r j hj => (fs_n (by omega) (fs_n (by omega) (fs_n (by omega) (fs_n (by omega) rfl)))))) s1138_ (by first | exact fs_rg rfl | exact fun r j hj => (fs_n (by omega) (fs_n (by omega) rfl)))) s1151_ (by first | exact fs_rg rfl | exact fun r j hj => (fs_n (by omega) (fs_n (by omega) rfl)))) s1162_ (by first | exact fs_rg rfl | exact fun r j hj => (fs_n (by omega) (fs_n (by omega) rfl)))) s1172_ (by first | exact fs_rg rfl | exact fun r j hj => (fs_n (by omega) (fs_n (by omega) rfl)))) s1182_ (by first | exact fs_rg rfl | exact fun r j hj => (fs_n (by omega) (fs_n (by omega) (fs_n (by omega) (fs_n (by omega) rfl)))))) s1192_ (by first | exact fs_rg rfl | exact fun r j hj => (fs_n (by omega) (fs_n (by omega) rfl)))) s1202_ (by first | exact fs_rg rfl | exact fun r j hj => (fs_n (by omega) (fs_n (by omega) rfl)))) s1212_ (by first | exact fs_rg rfl | exact fun r j hj => (fs_n (by omega) (fs_n (by omega) rfl)))) (by first | decide | exact nc_ rfl | omega))), hps.2⟩) (⟨by omega, by omega⟩) (Or.inr (by omega)) (by rw [q1216_]; exact fl_u_eq)) (fun _ _ h => False.elim h) ?_
            have e1223_ : F1215_ 344 9 = F1210_ 344 9 := by rw [q1216_]; exact fl_u_ne (by first | exact nc_ rfl | decide | omega)
            have b1224_ : 0 ≤ F1210_ 344 9 ∧ F1210_ 344 9 ≤ 5 := gi_g g1211_ rfl
            rintro A1_ ⟨F1227_, hA_, g1228_, s1229_, c1225_, c1226_⟩
            subst hA_
            have g1230_ : fs [(344, 344, 5, 5), (344, 344, 9, 10), (344, 344, 33, 33), (344, 344, 36, 36), (344, 344, 64, 64), (358, 358, 0, 100000), (360, 366, 0, 100000)] F F1227_ := fs_tr g1218_ s1229_ rfl
            have rk1231_ : rk K F1227_ := rk_fs rk1219_ s1229_ (fs_rg rfl) rfl
            try simp only [e1223_] at c1225_
            refine ga_aload_n (v := .ref 344) hm_184 rfl rfl rfl ?_
            refine fl_bipush hm_184 rfl rfl ?_
            have b1232_ : 0 ≤ F1227_ 344 5 ∧ F1227_ 344 5 ≤ 600 := gi_g g1228_ rfl
            refine gVv (nY := 2) (F := 2) (L := 41) (As := [.int (Int32.ofInt 41)]) (b := 344) (rest := []) hm_184 rfl hm_51 rfl rfl (fl_ob sc_344) rfl rfl rfl rfl rfl (by omega) (by omega) (mc_51s hG F1227_ X g1228_ (K) (41) (1) hgK rk1231_ hkt (⟨by omega, by omega⟩) (by omega) (by omega)) (fun _ _ h => False.elim h) ?_
            have b1234_ : 0 ≤ F1227_ 344 9 ∧ F1227_ 344 9 ≤ 5 := gi_g g1228_ rfl
            rintro A1_ ⟨F1237_, hA_, g1238_, s1239_, c1235_, c1236_⟩
            subst hA_
            have g1240_ : fs [(344, 344, 5, 5), (344, 344, 9, 10), (344, 344, 33, 33), (344, 344, 36, 36), (344, 344, 64, 64), (358, 358, 0, 100000), (360, 366, 0, 100000)] F F1237_ := fs_tr g1230_ s1239_ rfl
            have rk1241_ : rk K F1237_ := rk_fs rk1231_ s1239_ (fs_rg rfl) rfl
            refine ga_aload_n (v := .ref 344) hm_184 rfl rfl rfl ?_
            refine fl_bipush hm_184 rfl rfl ?_
            have b1242_ : 0 ≤ F1237_ 344 5 ∧ F1237_ 344 5 ≤ 600 := gi_g g1238_ rfl
            refine gVv (nY := 2) (F := 2) (L := 41) (As := [.int (Int32.ofInt 41)]) (b := 344) (rest := []) hm_184 rfl hm_51 rfl rfl (fl_ob sc_344) rfl rfl rfl rfl rfl (by omega) (by omega) (mc_51s hG F1237_ X g1238_ (K) (41) (1) hgK rk1241_ hkt (⟨by omega, by omega⟩) (by omega) (by omega)) (fun _ _ h => False.elim h) ?_
            have b1244_ : 0 ≤ F1237_ 344 9 ∧ F1237_ 344 9 ≤ 5 := gi_g g1238_ rfl
            rintro A1_ ⟨F1247_, hA_, g1248_, s1249_, c1245_, c1246_⟩
            subst hA_
            have g1250_ : fs [(344, 344, 5, 5), (344, 344, 9, 10), (344, 344, 33, 33), (344, 344, 36, 36), (344, 344, 64, 64), (358, 358, 0, 100000), (360, 366, 0, 100000)] F F1247_ := fs_tr g1240_ s1249_ rfl
            have rk1251_ : rk K F1247_ := rk_fs rk1241_ s1249_ (fs_rg rfl) rfl
            refine ga_aload_n (v := .ref 344) hm_184 rfl rfl rfl ?_
            refine gIi (nY := 1) (F := 0) (L := 0) (As := []) (b := 344) (rest := []) hm_184 rfl hm_59 rfl rfl (fl_ob sc_344) rfl rfl rfl rfl rfl (by omega) (by omega) ?_
            intro f1252_ l1253_ h1254_ h1255_
            show fl_R xi_ms 59 f1252_ l1253_ 0 [(0, .ref 344)] [] _ _
            refine ga_aload_n (v := .ref 344) hm_59 rfl rfl rfl ?_
            have b1256_ : 0 ≤ F1247_ 344 9 ∧ F1247_ 344 9 ≤ 5 := gi_g g1248_ rfl
            refine ga_geti (z := F1247_ 344 9) hm_59 rfl sc_344 rfl (rfl) ?_
            refine fl_if_le (a := F1247_ 344 9) hm_59 rfl ⟨by omega, by omega⟩ (fun h1257_ => ?_) (fun h1258_ => ?_)
            ·
              refine fl_iconst hm_59 rfl ?_
              refine gr_i hm_59 rfl rfl (ga_nb (by omega)) ?_
              clear h1254_ h1255_ f1252_ l1253_
              refine fl_if_ne hm_184 rfl ⟨by omega, by omega⟩ (fun h => absurd h (by omega)) (fun _ => ?_)
              refine ga_aload_n (v := .ref 344) hm_184 rfl rfl rfl ?_
              have b1259_ : 0 ≤ F1247_ 344 5 ∧ F1247_ 344 5 ≤ 600 := gi_g g1248_ rfl
              refine ga_geti (z := F1247_ 344 5) hm_184 rfl sc_344 rfl (rfl) ?_
              refine ga_aload_n (v := .ref 344) hm_184 rfl rfl rfl ?_
              have e1260_ : F1247_ 344 4 = K 1 6 - 1 := rk1251_.2.1
              refine ga_geti (z := K 1 6 - 1) hm_184 rfl sc_344 rfl (e1260_) ?_
              refine fl_icmp_ge (a := F1247_ 344 5) (b := K 1 6 - 1) hm_184 rfl ⟨by omega, by omega⟩ ⟨by omega, by omega⟩ (fun h1261_ => ?_) (fun h1262_ => ?_)
              ·
                refine gr_v hm_184 rfl rfl ?_
                exact ⟨F1247_, rfl, g1248_, g1250_, (⟨by omega, by omega⟩)⟩
              refine ga_aload_n (v := .ref 344) hm_184 rfl rfl rfl ?_
              refine fl_iconst hm_184 rfl ?_
              refine gVv (nY := 2) (F := 0) (L := 0) (As := [.int (Int32.ofInt 1)]) (b := 344) (rest := []) hm_184 rfl hm_54 rfl rfl (fl_ob sc_344) rfl rfl rfl rfl rfl (by omega) (by omega) (mc_54 hG F1247_ X g1248_ (K) (1) hgK rk1251_ hkt (⟨by omega, by omega⟩) (⟨by omega, by omega⟩)) (fun _ _ h => False.elim h) ?_
              have b1264_ : 0 ≤ F1247_ 344 10 ∧ F1247_ 344 10 ≤ 600 := gi_g g1248_ rfl
              rintro A1_ ⟨F1268_, hA_, g1269_, s1270_, c1265_, c1266_, c1267_⟩
              subst hA_
              have g1271_ : fs [(344, 344, 5, 5), (344, 344, 9, 10), (344, 344, 33, 33), (344, 344, 36, 36), (344, 344, 64, 64), (358, 358, 0, 100000), (360, 366, 0, 100000)] F F1268_ := fs_tr g1250_ s1270_ rfl
              have rk1272_ : rk K F1268_ := rk_fs rk1251_ s1270_ (fs_rg rfl) rfl
              have c1266_s := c1266_.1 (by omega)
              clear c1266_
              refine gr_v hm_184 rfl rfl ?_
              have e1273_ : F1268_ 344 5 = F1247_ 344 5 := (s1270_ 344 5 rfl).trans (rfl)
              exact ⟨F1268_, rfl, g1269_, g1271_, (⟨by omega, by omega⟩)⟩
            refine fl_iconst hm_59 rfl ?_
            refine fl_goto hm_59 rfl ?_
            refine gr_i hm_59 rfl rfl (ga_nb (by omega)) ?_
            clear h1254_ h1255_ f1252_ l1253_
            refine fl_if_ne hm_184 rfl ⟨by omega, by omega⟩ (fun _ => ?_) (fun h => absurd (by omega) h)
            refine gr_v hm_184 rfl rfl ?_
            have b1274_ : 0 ≤ F1247_ 344 5 ∧ F1247_ 344 5 ≤ 600 := gi_g g1248_ rfl
            exact ⟨F1247_, rfl, g1248_, g1250_, (⟨by omega, by omega⟩)⟩
          refine fl_iconst hm_59 rfl ?_
          refine fl_goto hm_59 rfl ?_
          refine gr_i hm_59 rfl rfl (ga_nb (by omega)) ?_
          clear h1143_ h1144_ f1141_ l1142_
          refine fl_if_ne hm_184 rfl ⟨by omega, by omega⟩ (fun _ => ?_) (fun h => absurd (by omega) h)
          refine ga_aload_n (v := .ref 344) hm_184 rfl rfl rfl ?_
          refine fl_bipush hm_184 rfl rfl ?_
          have b1275_ : 0 ≤ F1136_ 344 5 ∧ F1136_ 344 5 ≤ 600 := gi_g g1137_ rfl
          refine gVv (nY := 2) (F := 2) (L := 41) (As := [.int (Int32.ofInt 40)]) (b := 344) (rest := []) hm_184 rfl hm_51 rfl rfl (fl_ob sc_344) rfl rfl rfl rfl rfl (by omega) (by omega) (mc_51s hG F1136_ X g1137_ (K) (40) (0) hgK rk1140_ hkt (⟨by omega, by omega⟩) (by omega) (by omega)) (fun _ _ h => False.elim h) ?_
          rintro A1_ ⟨F1279_, hA_, g1280_, s1281_, c1277_, c1278_⟩
          subst hA_
          have g1282_ : fs [(344, 344, 5, 5), (344, 344, 9, 10), (344, 344, 33, 33), (344, 344, 36, 36), (344, 344, 64, 64), (358, 358, 0, 100000), (360, 366, 0, 100000)] F F1279_ := fs_tr g1139_ s1281_ rfl
          have rk1283_ : rk K F1279_ := rk_fs rk1140_ s1281_ (fs_rg rfl) rfl
          refine ga_aload_n (v := .ref 344) hm_184 rfl rfl rfl ?_
          refine fl_bipush hm_184 rfl rfl ?_
          have b1284_ : 0 ≤ F1279_ 344 5 ∧ F1279_ 344 5 ≤ 600 := gi_g g1280_ rfl
          refine gVv (nY := 2) (F := 2) (L := 44) (As := [.int (Int32.ofInt 16)]) (b := 344) (rest := []) hm_184 rfl hm_55 rfl rfl (fl_ob sc_344) rfl rfl rfl rfl rfl (by omega) (by omega) (mc_55s hG F1279_ X g1280_ (K) (16) ([58, 105, 110, 105, 116]) hgK rk1283_ hkt (⟨by omega, by omega⟩) (⟨by omega, by omega⟩) (by decide) (kw_16 rk1283_)) (fun _ _ h => False.elim h) ?_
          have b1286_ : 0 ≤ F1279_ 344 9 ∧ F1279_ 344 9 ≤ 5 := gi_g g1280_ rfl
          rintro A1_ ⟨F1289_, hA_, g1290_, s1291_, c1287_, c1288_⟩
          subst hA_
          have g1292_ : fs [(344, 344, 5, 5), (344, 344, 9, 10), (344, 344, 33, 33), (344, 344, 36, 36), (344, 344, 64, 64), (358, 358, 0, 100000), (360, 366, 0, 100000)] F F1289_ := fs_tr g1282_ s1291_ rfl
          have rk1293_ : rk K F1289_ := rk_fs rk1283_ s1291_ (fs_rg rfl) rfl
          refine ga_aload_n (v := .ref 344) hm_184 rfl rfl rfl ?_
          have b1294_ : 0 ≤ F1289_ 344 5 ∧ F1289_ 344 5 ≤ 600 := gi_g g1290_ rfl
          refine gVv (nY := 2) (F := 5) (L := 117) (As := []) (b := 344) (rest := []) hm_184 rfl hm_178 rfl rfl (fl_ob sc_344) rfl rfl rfl rfl rfl (by omega) (by omega) (mc_178 hG F1289_ X g1290_ (K) (l) (tl) (pl) (ps) hgK rk1293_ hkt (⟨by omega, by omega⟩) ((trm_fs (trm_fs (trm_fs ht1.1 s1138_ (by first | exact fs_rg rfl | exact fun r j hj => (fs_n (by omega) (fs_n (by omega) rfl)))) s1281_ (by first | exact fs_rg rfl | exact fun r j hj => (fs_n (by omega) (fs_n (by omega) rfl)))) s1291_ (by first | exact fs_rg rfl | exact fun r j hj => (fs_n (by omega) (fs_n (by omega) rfl))))) (ht1.2) ((rpn_fs (rpn_fs (rpn_fs (rpn_fs (rpn_fs (rpn_fs (rpn_fs (rpn_fs (rpn_fs (rpn_fs (rpn_fs (rpn_fs (rpn_fs (rpn_fs (rpn_fs (rpn_fs (rpn_fs (rpn_fs (rpn_fs hpl s8_ (fun _ => (by first | exact fs_c rfl | exact (fs_n (by omega) (fs_n (by omega) rfl)))) (by first | exact fs_c rfl | exact (fs_n (by omega) (fs_n (by omega) rfl)))) s18_ (fun _ => (by first | exact fs_c rfl | exact (fs_n (by omega) (fs_n (by omega) rfl)))) (by first | exact fs_c rfl | exact (fs_n (by omega) (fs_n (by omega) rfl)))) s28_ (fun _ => (by first | exact fs_c rfl | exact (fs_n (by omega) (fs_n (by omega) rfl)))) (by first | exact fs_c rfl | exact (fs_n (by omega) (fs_n (by omega) rfl)))) s38_ (fun _ => (by first | exact fs_c rfl | exact (fs_n (by omega) (fs_n (by omega) rfl)))) (by first | exact fs_c rfl | exact (fs_n (by omega) (fs_n (by omega) rfl)))) s50_ (fun _ => (by first | exact fs_c rfl | exact (fs_n (by omega) rfl))) (by first | exact fs_c rfl | exact (fs_n (by omega) rfl))) s59_ (fun _ => (by first | exact fs_c rfl | exact (fs_n (by omega) rfl))) (by first | exact fs_c rfl | exact (fs_n (by omega) rfl))) s69_ (fun _ => (by first | exact fs_c rfl | exact (fs_n (by omega) (fs_n (by omega) rfl)))) (by first | exact fs_c rfl | exact (fs_n (by omega) (fs_n (by omega) rfl)))) s79_ (fun _ => (by first | exact fs_c rfl | exact (fs_n (by omega) (fs_n (by omega) rfl)))) (by first | exact fs_c rfl | exact (fs_n (by omega) (fs_n (by omega) rfl)))) s89_ (fun _ => (by first | exact fs_c rfl | exact (fs_n (by omega) (fs_n (by omega) rfl)))) (by first | exact fs_c rfl | exact (fs_n (by omega) (fs_n (by omega) rfl)))) s101_ (fun _ => (by first | exact fs_c rfl | exact (fs_n (by omega) rfl))) (by first | exact fs_c rfl | exact (fs_n (by omega) rfl))) s1079_ (fun _ => (by first | exact fs_c rfl | exact (fs_n (by omega) rfl))) (by first | exact fs_c rfl | exact (fs_n (by omega) rfl))) s1088_ (fun _ => (by first | exact fs_c rfl | exact (fs_n (by omega) rfl))) (by first | exact fs_c rfl | exact (fs_n (by omega) rfl))) s1098_ (fun _ => (by first | exact fs_c rfl | exact (fs_n (by omega) (fs_n (by omega) rfl)))) (by first | exact fs_c rfl | exact (fs_n (by omega) (fs_n (by omega) rfl)))) s1108_ (fun _ => (by first | exact fs_c rfl | exact (fs_n (by omega) (fs_n (by omega) rfl)))) (by first | exact fs_c rfl | exact (fs_n (by omega) (fs_n (by omega) rfl)))) s1118_ (fun _ => (by first | exact fs_c rfl | exact (fs_n (by omega) (fs_n (by omega) rfl)))) (by first | exact fs_c rfl | exact (fs_n (by omega) (fs_n (by omega) rfl)))) hf_F1 (fun _ => (by first | exact fs_c rfl | exact (fs_n (by omega) (fs_n (by omega) (fs_n (by omega) (fs_n (by omega) rfl)))))) (by first | exact fs_c rfl | exact (fs_n (by omega) (fs_n (by omega) (fs_n (by omega) (fs_n (by omega) rfl)))))) s1138_ (fun _ => (by first | exact fs_c rfl | exact (fs_n (by omega) (fs_n (by omega) rfl)))) (by first | exact fs_c rfl | exact (fs_n (by omega) (fs_n (by omega) rfl)))) s1281_ (fun _ => (by first | exact fs_c rfl | exact (fs_n (by omega) (fs_n (by omega) rfl)))) (by first | exact fs_c rfl | exact (fs_n (by omega) (fs_n (by omega) rfl)))) s1291_ (fun _ => (by first | exact fs_c rfl | exact (fs_n (by omega) (fs_n (by omega) rfl)))) (by first | exact fs_c rfl | exact (fs_n (by omega) (fs_n (by omega) rfl))))) (⟨(rprd_fs (rprd_fs (rprd_fs (rprd_fs (rprd_fs (rprd_fs (rprd_fs (rprd_fs (rprd_fs (rprd_fs (rprd_fs (rprd_fs (rprd_fs (rprd_fs (rprd_fs (rprd_fs (rprd_fs (rprd_fs (rprd_fs hps.1 s8_ (by first | exact fs_rg rfl | exact fun r j hj => (fs_n (by omega) (fs_n (by omega) rfl)))) s18_ (by first | exact fs_rg rfl | exact fun r j hj => (fs_n (by omega) (fs_n (by omega) rfl)))) s28_ (by first | exact fs_rg rfl | exact fun r j hj => (fs_n (by omega) (fs_n (by omega) rfl)))) s38_ (by first | exact fs_rg rfl | exact fun r j hj => (fs_n (by omega) (fs_n (by omega) rfl)))) s50_ (by first | exact fs_rg rfl | exact fun r j hj => (fs_n (by omega) rfl))) s59_ (by first | exact fs_rg rfl | exact fun r j hj => (fs_n (by omega) rfl))) s69_ (by first | exact fs_rg rfl | exact fun r j hj => (fs_n (by omega) (fs_n (by omega) rfl)))) s79_ (by first | exact fs_rg rfl | exact fun r j hj => (fs_n (by omega) (fs_n (by omega) rfl)))) s89_ (by first | exact fs_rg rfl | exact fun r j hj => (fs_n (by omega) (fs_n (by omega) rfl)))) s101_ (by first | exact fs_rg rfl | exact fun r j hj => (fs_n (by omega) rfl))) s1079_ (by first | exact fs_rg rfl | exact fun r j hj => (fs_n (by omega) rfl))) s1088_ (by first | exact fs_rg rfl | exact fun r j hj => (fs_n (by omega) rfl))) s1098_ (by first | exact fs_rg rfl | exact fun r j hj => (fs_n (by omega) (fs_n (by omega) rfl)))) s1108_ (by first | exact fs_rg rfl | exact fun r j hj => (fs_n (by omega) (fs_n (by omega) rfl)))) s1118_ (by first | exact fs_rg rfl | exact fun r j hj => (fs_n (by omega) (fs_n (by omega) rfl)))) hf_F1 (by first | exact fs_rg rfl | exact fun r j hj => (fs_n (by omega) (fs_n (by omega) (fs_n (by omega) (fs_n (by omega) rfl)))))) s1138_ (by first | exact fs_rg rfl | exact fun r j hj => (fs_n (by omega) (fs_n (by omega) rfl)))) s1281_ (by first | exact fs_rg rfl | exact fun r j hj => (fs_n (by omega) (fs_n (by omega) rfl)))) s1291_ (by first | exact fs_rg rfl | exact fun r j hj => (fs_n (by omega) (fs_n (by omega) rfl)))), hps.2⟩)) (fun _ _ h => False.elim h) ?_
          have b1296_ : 0 ≤ F1289_ 344 9 ∧ F1289_ 344 9 ≤ 5 := gi_g g1290_ rfl
          rintro A1_ ⟨F1299_, hA_, g1300_, s1301_, c1297_, c1298_⟩
          subst hA_
          have g1302_ : fs [(344, 344, 5, 5), (344, 344, 9, 10), (344, 344, 33, 33), (344, 344, 36, 36), (344, 344, 64, 64), (358, 358, 0, 100000), (360, 366, 0, 100000)] F F1299_ := fs_tr g1292_ s1301_ rfl
          have rk1303_ : rk K F1299_ := rk_fs rk1293_ s1301_ (fs_rg rfl) rfl
          refine ga_aload_n (v := .ref 344) hm_184 rfl rfl rfl ?_
          refine fl_bipush hm_184 rfl rfl ?_
          have b1304_ : 0 ≤ F1299_ 344 5 ∧ F1299_ 344 5 ≤ 600 := gi_g g1300_ rfl
          refine gVv (nY := 2) (F := 2) (L := 41) (As := [.int (Int32.ofInt 41)]) (b := 344) (rest := []) hm_184 rfl hm_51 rfl rfl (fl_ob sc_344) rfl rfl rfl rfl rfl (by omega) (by omega) (mc_51s hG F1299_ X g1300_ (K) (41) (1) hgK rk1303_ hkt (⟨by omega, by omega⟩) (by omega) (by omega)) (fun _ _ h => False.elim h) ?_
          have b1306_ : 0 ≤ F1299_ 344 9 ∧ F1299_ 344 9 ≤ 5 := gi_g g1300_ rfl
          rintro A1_ ⟨F1309_, hA_, g1310_, s1311_, c1307_, c1308_⟩
          subst hA_
          have g1312_ : fs [(344, 344, 5, 5), (344, 344, 9, 10), (344, 344, 33, 33), (344, 344, 36, 36), (344, 344, 64, 64), (358, 358, 0, 100000), (360, 366, 0, 100000)] F F1309_ := fs_tr g1302_ s1311_ rfl
          have rk1313_ : rk K F1309_ := rk_fs rk1303_ s1311_ (fs_rg rfl) rfl
          refine ga_aload_n (v := .ref 344) hm_184 rfl rfl rfl ?_
          refine fl_bipush hm_184 rfl rfl ?_
          have b1314_ : 0 ≤ F1309_ 344 5 ∧ F1309_ 344 5 ≤ 600 := gi_g g1310_ rfl
          refine gVv (nY := 2) (F := 2) (L := 41) (As := [.int (Int32.ofInt 40)]) (b := 344) (rest := []) hm_184 rfl hm_51 rfl rfl (fl_ob sc_344) rfl rfl rfl rfl rfl (by omega) (by omega) (mc_51s hG F1309_ X g1310_ (K) (40) (0) hgK rk1313_ hkt (⟨by omega, by omega⟩) (by omega) (by omega)) (fun _ _ h => False.elim h) ?_
          have b1316_ : 0 ≤ F1309_ 344 9 ∧ F1309_ 344 9 ≤ 5 := gi_g g1310_ rfl
          rintro A1_ ⟨F1319_, hA_, g1320_, s1321_, c1317_, c1318_⟩
          subst hA_
          have g1322_ : fs [(344, 344, 5, 5), (344, 344, 9, 10), (344, 344, 33, 33), (344, 344, 36, 36), (344, 344, 64, 64), (358, 358, 0, 100000), (360, 366, 0, 100000)] F F1319_ := fs_tr g1312_ s1321_ rfl
          have rk1323_ : rk K F1319_ := rk_fs rk1313_ s1321_ (fs_rg rfl) rfl
          refine ga_aload_n (v := .ref 344) hm_184 rfl rfl rfl ?_
          refine fl_bipush hm_184 rfl rfl ?_
          have b1324_ : 0 ≤ F1319_ 344 5 ∧ F1319_ 344 5 ≤ 600 := gi_g g1320_ rfl
          refine gVv (nY := 2) (F := 2) (L := 44) (As := [.int (Int32.ofInt 17)]) (b := 344) (rest := []) hm_184 rfl hm_55 rfl rfl (fl_ob sc_344) rfl rfl rfl rfl rfl (by omega) (by omega) (mc_55s hG F1319_ X g1320_ (K) (17) ([58, 103, 111, 97, 108]) hgK rk1323_ hkt (⟨by omega, by omega⟩) (⟨by omega, by omega⟩) (by decide) (kw_17 rk1323_)) (fun _ _ h => False.elim h) ?_
          have b1326_ : 0 ≤ F1319_ 344 9 ∧ F1319_ 344 9 ≤ 5 := gi_g g1320_ rfl
          rintro A1_ ⟨F1329_, hA_, g1330_, s1331_, c1327_, c1328_⟩
          subst hA_
          have g1332_ : fs [(344, 344, 5, 5), (344, 344, 9, 10), (344, 344, 33, 33), (344, 344, 36, 36), (344, 344, 64, 64), (358, 358, 0, 100000), (360, 366, 0, 100000)] F F1329_ := fs_tr g1322_ s1331_ rfl
          have rk1333_ : rk K F1329_ := rk_fs rk1323_ s1331_ (fs_rg rfl) rfl
          refine ga_aload_n (v := .ref 344) hm_184 rfl rfl rfl ?_
          refine ga_getr (b := 358) hm_184 rfl sc_344 rfl ?_
          refine fl_iconst hm_184 rfl ?_
          refine fl_iconst hm_184 rfl ?_
          refine fl_iast (z := 5) (v := 0) hm_184 rfl sc_358 (by omega) (by omega) (by omega) ?_
          refine ga_aload_n (v := .ref 344) hm_184 rfl rfl rfl ?_
          refine fl_iconst hm_184 rfl ?_
          refine fl_bipush hm_184 rfl rfl ?_
          obtain ⟨F1334_, q1335_⟩ : ∃ Fq_, Fq_ = (fl_u F1329_ 358 (5 : Int).toNat 0) := ⟨_, rfl⟩
          rw [← q1335_]
          have g1336_ : gi F1334_ := by rw [q1335_]; exact gi_u (g1330_) rfl (by omega) (by omega)
          have g1337_ : fs [(344, 344, 5, 5), (344, 344, 9, 10), (344, 344, 33, 33), (344, 344, 36, 36), (344, 344, 64, 64), (358, 358, 0, 100000), (360, 366, 0, 100000)] F F1334_ := by rw [q1335_]; exact fs_u (g1332_) rfl
          have rk1338_ : rk K F1334_ := by rw [q1335_]; exact rk_u (rk1333_) (by first | decide | exact nc_ rfl | omega) (by first | decide | exact nc_ rfl | omega)
          have e1339_ : F1334_ 344 5 = F1329_ 344 5 := by rw [q1335_]; exact fl_u_ne (by first | exact nc_ rfl | decide | omega)
          have b1340_ : 0 ≤ F1329_ 344 5 ∧ F1329_ 344 5 ≤ 600 := gi_g g1330_ rfl
          refine gVv (nY := 4) (F := 6) (L := 142) (As := [.int (Int32.ofInt 5), .int (Int32.ofInt 40)]) (b := 344) (rest := []) hm_184 rfl hm_175 rfl rfl (fl_ob sc_344) rfl rfl rfl rfl rfl (by omega) (by omega) (mc_175s hG F1334_ X g1336_ (K) (5) (40) (2) (l) (tl) (pl) (ps) hgK rk1338_ hkt (⟨by omega, by omega⟩) ((by rw [q1335_]; exact (trm_u (trm_fs (trm_fs (trm_fs (trm_fs (trm_fs (trm_fs (trm_fs ht1.1 s1138_ (by first | exact fs_rg rfl | exact fun r j hj => (fs_n (by omega) (fs_n (by omega) rfl)))) s1281_ (by first | exact fs_rg rfl | exact fun r j hj => (fs_n (by omega) (fs_n (by omega) rfl)))) s1291_ (by first | exact fs_rg rfl | exact fun r j hj => (fs_n (by omega) (fs_n (by omega) rfl)))) s1301_ (by first | exact fs_rg rfl | exact fun r j hj => (fs_n (by omega) (fs_n (by omega) (fs_n (by omega) (fs_n (by omega) rfl)))))) s1311_ (by first | exact fs_rg rfl | exact fun r j hj => (fs_n (by omega) (fs_n (by omega) rfl)))) s1321_ (by first | exact fs_rg rfl | exact fun r j hj => (fs_n (by omega) (fs_n (by omega) rfl)))) s1331_ (by first | exact fs_rg rfl | exact fun r j hj => (fs_n (by omega) (fs_n (by omega) rfl)))) (by first | decide | exact nc_ rfl | omega)))) (ht1.2) (⟨by omega, by omega⟩) ((by rw [q1335_]; exact (rpn_u (rpn_fs (rpn_fs (rpn_fs (rpn_fs (rpn_fs (rpn_fs (rpn_fs (rpn_fs (rpn_fs (rpn_fs (rpn_fs (rpn_fs (rpn_fs (rpn_fs (rpn_fs (rpn_fs (rpn_fs (rpn_fs (rpn_fs (rpn_fs (rpn_fs (rpn_fs (rpn_fs hpl s8_ (fun _ => (by first | exact fs_c rfl | exact (fs_n (by omega) (fs_n (by omega) rfl)))) (by first | exact fs_c rfl | exact (fs_n (by omega) (fs_n (by omega) rfl)))) s18_ (fun _ => (by first | exact fs_c rfl | exact (fs_n (by omega) (fs_n (by omega) rfl)))) (by first | exact fs_c rfl | exact (fs_n (by omega) (fs_n (by omega) rfl)))) s28_ (fun _ => (by first | exact fs_c rfl | exact (fs_n (by omega) (fs_n (by omega) rfl)))) (by first | exact fs_c rfl | exact (fs_n (by omega) (fs_n (by omega) rfl)))) s38_ (fun _ => (by first | exact fs_c rfl | exact (fs_n (by omega) (fs_n (by omega) rfl)))) (by first | exact fs_c rfl | exact (fs_n (by omega) (fs_n (by omega) rfl)))) s50_ (fun _ => (by first | exact fs_c rfl | exact (fs_n (by omega) rfl))) (by first | exact fs_c rfl | exact (fs_n (by omega) rfl))) s59_ (fun _ => (by first | exact fs_c rfl | exact (fs_n (by omega) rfl))) (by first | exact fs_c rfl | exact (fs_n (by omega) rfl))) s69_ (fun _ => (by first | exact fs_c rfl | exact (fs_n (by omega) (fs_n (by omega) rfl)))) (by first | exact fs_c rfl | exact (fs_n (by omega) (fs_n (by omega) rfl)))) s79_ (fun _ => (by first | exact fs_c rfl | exact (fs_n (by omega) (fs_n (by omega) rfl)))) (by first | exact fs_c rfl | exact (fs_n (by omega) (fs_n (by omega) rfl)))) s89_ (fun _ => (by first | exact fs_c rfl | exact (fs_n (by omega) (fs_n (by omega) rfl)))) (by first | exact fs_c rfl | exact (fs_n (by omega) (fs_n (by omega) rfl)))) s101_ (fun _ => (by first | exact fs_c rfl | exact (fs_n (by omega) rfl))) (by first | exact fs_c rfl | exact (fs_n (by omega) rfl))) s1079_ (fun _ => (by first | exact fs_c rfl | exact (fs_n (by omega) rfl))) (by first | exact fs_c rfl | exact (fs_n (by omega) rfl))) s1088_ (fun _ => (by first | exact fs_c rfl | exact (fs_n (by omega) rfl))) (by first | exact fs_c rfl | exact (fs_n (by omega) rfl))) s1098_ (fun _ => (by first | exact fs_c rfl | exact (fs_n (by omega) (fs_n (by omega) rfl)))) (by first | exact fs_c rfl | exact (fs_n (by omega) (fs_n (by omega) rfl)))) s1108_ (fun _ => (by first | exact fs_c rfl | exact (fs_n (by omega) (fs_n (by omega) rfl)))) (by first | exact fs_c rfl | exact (fs_n (by omega) (fs_n (by omega) rfl)))) s1118_ (fun _ => (by first | exact fs_c rfl | exact (fs_n (by omega) (fs_n (by omega) rfl)))) (by first | exact fs_c rfl | exact (fs_n (by omega) (fs_n (by omega) rfl)))) hf_F1 (fun _ => (by first | exact fs_c rfl | exact (fs_n (by omega) (fs_n (by omega) (fs_n (by omega) (fs_n (by omega) rfl)))))) (by first | exact fs_c rfl | exact (fs_n (by omega) (fs_n (by omega) (fs_n (by omega) (fs_n (by omega) rfl)))))) s1138_ (fun _ => (by first | exact fs_c rfl | exact (fs_n (by omega) (fs_n (by omega) rfl)))) (by first | exact fs_c rfl | exact (fs_n (by omega) (fs_n (by omega) rfl)))) s1281_ (fun _ => (by first | exact fs_c rfl | exact (fs_n (by omega) (fs_n (by omega) rfl)))) (by first | exact fs_c rfl | exact (fs_n (by omega) (fs_n (by omega) rfl)))) s1291_ (fun _ => (by first | exact fs_c rfl | exact (fs_n (by omega) (fs_n (by omega) rfl)))) (by first | exact fs_c rfl | exact (fs_n (by omega) (fs_n (by omega) rfl)))) s1301_ (fun _ => (by first | exact fs_c rfl | exact (fs_n (by omega) (fs_n (by omega) (fs_n (by omega) (fs_n (by omega) rfl)))))) (by first | exact fs_c rfl | exact (fs_n (by omega) (fs_n (by omega) (fs_n (by omega) (fs_n (by omega) rfl)))))) s1311_ (fun _ => (by first | exact fs_c rfl | exact (fs_n (by omega) (fs_n (by omega) rfl)))) (by first | exact fs_c rfl | exact (fs_n (by omega) (fs_n (by omega) rfl)))) s1321_ (fun _ => (by first | exact fs_c rfl | exact (fs_n (by omega) (fs_n (by omega) rfl)))) (by first | exact fs_c rfl | exact (fs_n (by omega) (fs_n (by omega) rfl)))) s1331_ (fun _ => (by first | exact fs_c rfl | exact (fs_n (by omega) (fs_n (by omega) rfl)))) (by first | exact fs_c rfl | exact (fs_n (by omega) (fs_n (by omega) rfl)))) (by first | decide | exact nc_ rfl | omega) (by first | decide | exact nc_ rfl | omega)))) (⟨(by rw [q1335_]; exact (rprd_u (rprd_fs (rprd_fs (rprd_fs (rprd_fs (rprd_fs (rprd_fs (rprd_fs (rprd_fs (rprd_fs (rprd_fs (rprd_fs (rprd_fs (rprd_fs (rprd_fs (rprd_fs (rprd_fs (rprd_fs (rprd_fs (rprd_fs (rprd_fs (rprd_fs (rprd_fs (rprd_fs hps.1 s8_ (by first | exact fs_rg rfl | exact fun r j hj => (fs_n (by omega) (fs_n (by omega) rfl)))) s18_ (by first | exact fs_rg rfl | exact fun r j hj => (fs_n (by omega) (fs_n (by omega) rfl)))) s28_ (by first | exact fs_rg rfl | exact fun r j hj => (fs_n (by omega) (fs_n (by omega) rfl)))) s38_ (by first | exact fs_rg rfl | exact fun r j hj => (fs_n (by omega) (fs_n (by omega) rfl)))) s50_ (by first | exact fs_rg rfl | exact fun r j hj => (fs_n (by omega) rfl))) s59_ (by first | exact fs_rg rfl | exact fun r j hj => (fs_n (by omega) rfl))) s69_ (by first | exact fs_rg rfl | exact fun r j hj => (fs_n (by omega) (fs_n (by omega) rfl)))) s79_ (by first | exact fs_rg rfl | exact fun r j hj => (fs_n (by omega) (fs_n (by omega) rfl)))) s89_ (by first | exact fs_rg rfl | exact fun r j hj => (fs_n (by omega) (fs_n (by omega) rfl)))) s101_ (by first | exact fs_rg rfl | exact fun r j hj => (fs_n (by omega) rfl))) s1079_ (by first | exact fs_rg rfl | exact fun r j hj => (fs_n (by omega) rfl))) s1088_ (by first | exact fs_rg rfl | exact fun r j hj => (fs_n (by omega) rfl))) s1098_ (by first | exact fs_rg rfl | exact fun r j hj => (fs_n (by omega) (fs_n (by omega) rfl)))) s1108_ (by first | exact fs_rg rfl | exact fun r j hj => (fs_n (by omega) (fs_n (by omega) rfl)))) s1118_ (by first | exact fs_rg rfl | exact fun r j hj => (fs_n (by omega) (fs_n (by omega) rfl)))) hf_F1 (by first | exact fs_rg rfl | exact fun r j hj => (fs_n (by omega) (fs_n (by omega) (fs_n (by omega) (fs_n (by omega) rfl)))))) s1138_ (by first | exact fs_rg rfl | exact fun r j hj => (fs_n (by omega) (fs_n (by omega) rfl)))) s1281_ (by first | exact fs_rg rfl | exact fun r j hj => (fs_n (by omega) (fs_n (by omega) rfl)))) s1291_ (by first | exact fs_rg rfl | exact fun r j hj => (fs_n (by omega) (fs_n (by omega) rfl)))) s1301_ (by first | exact fs_rg rfl | exact fun r j hj => (fs_n (by omega) (fs_n (by omega) (fs_n (by omega) (fs_n (by omega) rfl)))))) s1311_ (by first | exact fs_rg rfl | exact fun r j hj => (fs_n (by omega) (fs_n (by omega) rfl)))) s1321_ (by first | exact fs_rg rfl | exact fun r j hj => (fs_n (by omega) (fs_n (by omega) rfl)))) s1331_ (by first | exact fs_rg rfl | exact fun r j hj => (fs_n (by omega) (fs_n (by omega) rfl)))) (by first | decide | exact nc_ rfl | omega))), hps.2⟩) (⟨by omega, by omega⟩) (Or.inr (by omega)) (by rw [q1335_]; exact fl_u_eq)) (fun _ _ h => False.elim h) ?_
          have e1342_ : F1334_ 344 9 = F1329_ 344 9 := by rw [q1335_]; exact fl_u_ne (by first | exact nc_ rfl | decide | omega)
          have b1343_ : 0 ≤ F1329_ 344 9 ∧ F1329_ 344 9 ≤ 5 := gi_g g1330_ rfl
          rintro A1_ ⟨F1346_, hA_, g1347_, s1348_, c1344_, c1345_⟩
          subst hA_
          have g1349_ : fs [(344, 344, 5, 5), (344, 344, 9, 10), (344, 344, 33, 33), (344, 344, 36, 36), (344, 344, 64, 64), (358, 358, 0, 100000), (360, 366, 0, 100000)] F F1346_ := fs_tr g1337_ s1348_ rfl
          have rk1350_ : rk K F1346_ := rk_fs rk1338_ s1348_ (fs_rg rfl) rfl
          try simp only [e1342_] at c1344_
          refine ga_aload_n (v := .ref 344) hm_184 rfl rfl rfl ?_
          refine fl_bipush hm_184 rfl rfl ?_
          have b1351_ : 0 ≤ F1346_ 344 5 ∧ F1346_ 344 5 ≤ 600 := gi_g g1347_ rfl
          refine gVv (nY := 2) (F := 2) (L := 41) (As := [.int (Int32.ofInt 41)]) (b := 344) (rest := []) hm_184 rfl hm_51 rfl rfl (fl_ob sc_344) rfl rfl rfl rfl rfl (by omega) (by omega) (mc_51s hG F1346_ X g1347_ (K) (41) (1) hgK rk1350_ hkt (⟨by omega, by omega⟩) (by omega) (by omega)) (fun _ _ h => False.elim h) ?_
          have b1353_ : 0 ≤ F1346_ 344 9 ∧ F1346_ 344 9 ≤ 5 := gi_g g1347_ rfl
          rintro A1_ ⟨F1356_, hA_, g1357_, s1358_, c1354_, c1355_⟩
          subst hA_
          have g1359_ : fs [(344, 344, 5, 5), (344, 344, 9, 10), (344, 344, 33, 33), (344, 344, 36, 36), (344, 344, 64, 64), (358, 358, 0, 100000), (360, 366, 0, 100000)] F F1356_ := fs_tr g1349_ s1358_ rfl
          have rk1360_ : rk K F1356_ := rk_fs rk1350_ s1358_ (fs_rg rfl) rfl
          refine ga_aload_n (v := .ref 344) hm_184 rfl rfl rfl ?_
          refine fl_bipush hm_184 rfl rfl ?_
          have b1361_ : 0 ≤ F1356_ 344 5 ∧ F1356_ 344 5 ≤ 600 := gi_g g1357_ rfl
          refine gVv (nY := 2) (F := 2) (L := 41) (As := [.int (Int32.ofInt 41)]) (b := 344) (rest := []) hm_184 rfl hm_51 rfl rfl (fl_ob sc_344) rfl rfl rfl rfl rfl (by omega) (by omega) (mc_51s hG F1356_ X g1357_ (K) (41) (1) hgK rk1360_ hkt (⟨by omega, by omega⟩) (by omega) (by omega)) (fun _ _ h => False.elim h) ?_
          have b1363_ : 0 ≤ F1356_ 344 9 ∧ F1356_ 344 9 ≤ 5 := gi_g g1357_ rfl
          rintro A1_ ⟨F1366_, hA_, g1367_, s1368_, c1364_, c1365_⟩
          subst hA_
          have g1369_ : fs [(344, 344, 5, 5), (344, 344, 9, 10), (344, 344, 33, 33), (344, 344, 36, 36), (344, 344, 64, 64), (358, 358, 0, 100000), (360, 366, 0, 100000)] F F1366_ := fs_tr g1359_ s1368_ rfl
          have rk1370_ : rk K F1366_ := rk_fs rk1360_ s1368_ (fs_rg rfl) rfl
          refine ga_aload_n (v := .ref 344) hm_184 rfl rfl rfl ?_
          refine gIi (nY := 1) (F := 0) (L := 0) (As := []) (b := 344) (rest := []) hm_184 rfl hm_59 rfl rfl (fl_ob sc_344) rfl rfl rfl rfl rfl (by omega) (by omega) ?_
          intro f1371_ l1372_ h1373_ h1374_
          show fl_R xi_ms 59 f1371_ l1372_ 0 [(0, .ref 344)] [] _ _
          refine ga_aload_n (v := .ref 344) hm_59 rfl rfl rfl ?_
          have b1375_ : 0 ≤ F1366_ 344 9 ∧ F1366_ 344 9 ≤ 5 := gi_g g1367_ rfl
          refine ga_geti (z := F1366_ 344 9) hm_59 rfl sc_344 rfl (rfl) ?_
          refine fl_if_le (a := F1366_ 344 9) hm_59 rfl ⟨by omega, by omega⟩ (fun h1376_ => ?_) (fun h1377_ => ?_)
          ·
            refine fl_iconst hm_59 rfl ?_
            refine gr_i hm_59 rfl rfl (ga_nb (by omega)) ?_
            clear h1373_ h1374_ f1371_ l1372_
            refine fl_if_ne hm_184 rfl ⟨by omega, by omega⟩ (fun h => absurd h (by omega)) (fun _ => ?_)
            refine ga_aload_n (v := .ref 344) hm_184 rfl rfl rfl ?_
            have b1378_ : 0 ≤ F1366_ 344 5 ∧ F1366_ 344 5 ≤ 600 := gi_g g1367_ rfl
            refine ga_geti (z := F1366_ 344 5) hm_184 rfl sc_344 rfl (rfl) ?_
            refine ga_aload_n (v := .ref 344) hm_184 rfl rfl rfl ?_
            have e1379_ : F1366_ 344 4 = K 1 6 - 1 := rk1370_.2.1
            refine ga_geti (z := K 1 6 - 1) hm_184 rfl sc_344 rfl (e1379_) ?_
            refine fl_icmp_ge (a := F1366_ 344 5) (b := K 1 6 - 1) hm_184 rfl ⟨by omega, by omega⟩ ⟨by omega, by omega⟩ (fun h1380_ => ?_) (fun h1381_ => ?_)
            ·
              refine gr_v hm_184 rfl rfl ?_
              exact ⟨F1366_, rfl, g1367_, g1369_, (⟨by omega, by omega⟩)⟩
            refine ga_aload_n (v := .ref 344) hm_184 rfl rfl rfl ?_
            refine fl_iconst hm_184 rfl ?_
            refine gVv (nY := 2) (F := 0) (L := 0) (As := [.int (Int32.ofInt 1)]) (b := 344) (rest := []) hm_184 rfl hm_54 rfl rfl (fl_ob sc_344) rfl rfl rfl rfl rfl (by omega) (by omega) (mc_54 hG F1366_ X g1367_ (K) (1) hgK rk1370_ hkt (⟨by omega, by omega⟩) (⟨by omega, by omega⟩)) (fun _ _ h => False.elim h) ?_
            have b1383_ : 0 ≤ F1366_ 344 10 ∧ F1366_ 344 10 ≤ 600 := gi_g g1367_ rfl
            rintro A1_ ⟨F1387_, hA_, g1388_, s1389_, c1384_, c1385_, c1386_⟩
            subst hA_
            have g1390_ : fs [(344, 344, 5, 5), (344, 344, 9, 10), (344, 344, 33, 33), (344, 344, 36, 36), (344, 344, 64, 64), (358, 358, 0, 100000), (360, 366, 0, 100000)] F F1387_ := fs_tr g1369_ s1389_ rfl
            have rk1391_ : rk K F1387_ := rk_fs rk1370_ s1389_ (fs_rg rfl) rfl
            have c1385_s := c1385_.1 (by omega)
            clear c1385_
            refine gr_v hm_184 rfl rfl ?_
            have e1392_ : F1387_ 344 5 = F1366_ 344 5 := (s1389_ 344 5 rfl).trans (rfl)
            exact ⟨F1387_, rfl, g1388_, g1390_, (⟨by omega, by omega⟩)⟩
          refine fl_iconst hm_59 rfl ?_
          refine fl_goto hm_59 rfl ?_
          refine gr_i hm_59 rfl rfl (ga_nb (by omega)) ?_
          clear h1373_ h1374_ f1371_ l1372_
          refine fl_if_ne hm_184 rfl ⟨by omega, by omega⟩ (fun _ => ?_) (fun h => absurd (by omega) h)
          refine gr_v hm_184 rfl rfl ?_
          have b1393_ : 0 ≤ F1366_ 344 5 ∧ F1366_ 344 5 ≤ 600 := gi_g g1367_ rfl
          exact ⟨F1366_, rfl, g1367_, g1369_, (⟨by omega, by omega⟩)⟩
        refine ga_aload_n (v := .ref 344) hm_184 rfl rfl rfl ?_
        refine gIi (nY := 1) (F := 0) (L := 0) (As := []) (b := 344) (rest := []) hm_184 rfl hm_59 rfl rfl (fl_ob sc_344) rfl rfl rfl rfl rfl (by omega) (by omega) ?_
        intro f1394_ l1395_ h1396_ h1397_
        show fl_R xi_ms 59 f1394_ l1395_ 0 [(0, .ref 344)] [] _ _
        refine ga_aload_n (v := .ref 344) hm_59 rfl rfl rfl ?_
        have b1398_ : 0 ≤ F1 344 9 ∧ F1 344 9 ≤ 5 := gi_g hg_F1 rfl
        refine ga_geti (z := F1 344 9) hm_59 rfl sc_344 rfl (rfl) ?_
        refine fl_if_le (a := F1 344 9) hm_59 rfl ⟨by omega, by omega⟩ (fun h1399_ => ?_) (fun h1400_ => ?_)
        ·
          refine fl_iconst hm_59 rfl ?_
          refine gr_i hm_59 rfl rfl (ga_nb (by omega)) ?_
          clear h1396_ h1397_ f1394_ l1395_
          refine fl_if_ne hm_184 rfl ⟨by omega, by omega⟩ (fun h => absurd h (by omega)) (fun _ => ?_)
          refine ga_aload_n (v := .ref 344) hm_184 rfl rfl rfl ?_
          have b1401_ : 0 ≤ F1 344 5 ∧ F1 344 5 ≤ 600 := gi_g hg_F1 rfl
          refine gVv (nY := 3) (F := 4) (L := 89) (As := []) (b := 344) (rest := []) hm_184 rfl hm_180 rfl rfl (fl_ob sc_344) rfl rfl rfl rfl rfl (by omega) (by omega) (mc_180 hG F1 X hg_F1 (K) (ts) (l) (tl) hgK rk1128_ hkt (⟨by omega, by omega⟩) ((rpn_fs (rpn_fs (rpn_fs (rpn_fs (rpn_fs (rpn_fs (rpn_fs (rpn_fs (rpn_fs (rpn_fs (rpn_fs (rpn_fs (rpn_fs (rpn_fs (rpn_fs (rpn_fs hts s8_ (fun _ => (by first | exact fs_c rfl | exact (fs_n (by omega) (fs_n (by omega) rfl)))) (by first | exact fs_c rfl | exact (fs_n (by omega) (fs_n (by omega) rfl)))) s18_ (fun _ => (by first | exact fs_c rfl | exact (fs_n (by omega) (fs_n (by omega) rfl)))) (by first | exact fs_c rfl | exact (fs_n (by omega) (fs_n (by omega) rfl)))) s28_ (fun _ => (by first | exact fs_c rfl | exact (fs_n (by omega) (fs_n (by omega) rfl)))) (by first | exact fs_c rfl | exact (fs_n (by omega) (fs_n (by omega) rfl)))) s38_ (fun _ => (by first | exact fs_c rfl | exact (fs_n (by omega) (fs_n (by omega) rfl)))) (by first | exact fs_c rfl | exact (fs_n (by omega) (fs_n (by omega) rfl)))) s50_ (fun _ => (by first | exact fs_c rfl | exact (fs_n (by omega) rfl))) (by first | exact fs_c rfl | exact (fs_n (by omega) rfl))) s59_ (fun _ => (by first | exact fs_c rfl | exact (fs_n (by omega) rfl))) (by first | exact fs_c rfl | exact (fs_n (by omega) rfl))) s69_ (fun _ => (by first | exact fs_c rfl | exact (fs_n (by omega) (fs_n (by omega) rfl)))) (by first | exact fs_c rfl | exact (fs_n (by omega) (fs_n (by omega) rfl)))) s79_ (fun _ => (by first | exact fs_c rfl | exact (fs_n (by omega) (fs_n (by omega) rfl)))) (by first | exact fs_c rfl | exact (fs_n (by omega) (fs_n (by omega) rfl)))) s89_ (fun _ => (by first | exact fs_c rfl | exact (fs_n (by omega) (fs_n (by omega) rfl)))) (by first | exact fs_c rfl | exact (fs_n (by omega) (fs_n (by omega) rfl)))) s101_ (fun _ => (by first | exact fs_c rfl | exact (fs_n (by omega) rfl))) (by first | exact fs_c rfl | exact (fs_n (by omega) rfl))) s1079_ (fun _ => (by first | exact fs_c rfl | exact (fs_n (by omega) rfl))) (by first | exact fs_c rfl | exact (fs_n (by omega) rfl))) s1088_ (fun _ => (by first | exact fs_c rfl | exact (fs_n (by omega) rfl))) (by first | exact fs_c rfl | exact (fs_n (by omega) rfl))) s1098_ (fun _ => (by first | exact fs_c rfl | exact (fs_n (by omega) (fs_n (by omega) rfl)))) (by first | exact fs_c rfl | exact (fs_n (by omega) (fs_n (by omega) rfl)))) s1108_ (fun _ => (by first | exact fs_c rfl | exact (fs_n (by omega) (fs_n (by omega) rfl)))) (by first | exact fs_c rfl | exact (fs_n (by omega) (fs_n (by omega) rfl)))) s1118_ (fun _ => (by first | exact fs_c rfl | exact (fs_n (by omega) (fs_n (by omega) rfl)))) (by first | exact fs_c rfl | exact (fs_n (by omega) (fs_n (by omega) rfl)))) hf_F1 (fun _ => (by first | exact fs_c rfl | exact (fs_n (by omega) (fs_n (by omega) (fs_n (by omega) (fs_n (by omega) rfl)))))) (by first | exact fs_c rfl | exact (fs_n (by omega) (fs_n (by omega) (fs_n (by omega) (fs_n (by omega) rfl))))))) (ht1.1) (ht1.2)) (fun _ _ h => False.elim h) ?_
          have b1403_ : 0 ≤ F1 344 33 ∧ F1 344 33 ≤ 6 := gi_g hg_F1 rfl
          rintro A1_ ⟨F1408_, hA_, g1409_, s1410_, c1404_, c1405_, c1406_, c1407_⟩
          subst hA_
          have g1411_ : fs [(344, 344, 5, 5), (344, 344, 9, 10), (344, 344, 33, 33), (344, 344, 36, 36), (344, 344, 64, 64), (358, 358, 0, 100000), (360, 366, 0, 100000)] F F1408_ := fs_tr g1127_ s1410_ rfl
          have rk1412_ : rk K F1408_ := rk_fs rk1128_ s1410_ (fs_rg rfl) rfl
          obtain ⟨l2_, tl2_, ht2_⟩ := c1406_
          have b1413_ : 0 ≤ F1408_ 344 9 ∧ F1408_ 344 9 ≤ 5 := gi_g g1409_ rfl
          by_cases h1414_ : F1408_ 344 9 = 0
          ·
            refine ga_aload_n (v := .ref 344) hm_184 rfl rfl rfl ?_
            refine fl_bipush hm_184 rfl rfl ?_
            have b1415_ : 0 ≤ F1408_ 344 5 ∧ F1408_ 344 5 ≤ 600 := gi_g g1409_ rfl
            refine gVi (nY := 2) (F := 1) (L := 20) (As := [.int (Int32.ofInt 41)]) (b := 344) (rest := []) hm_184 rfl hm_52 rfl rfl (fl_ob sc_344) rfl rfl rfl rfl rfl (by omega) (by omega) (mc_52 hG F1408_ X g1409_ (K) (41) hgK rk1412_ hkt (⟨by omega, by omega⟩) (by omega)) (fun _ _ h => False.elim h) ?_
            rintro z1416_ A1_ (⟨hA_, hz_, c1417_⟩ | ⟨hA_, hz_, c1418_, c1419_⟩)
            ·
              subst hA_
              subst hz_
              refine fl_if_ne hm_184 rfl ⟨by omega, by omega⟩ (fun h => absurd h (by omega)) (fun _ => ?_)
              refine fl_iconst hm_184 rfl ?_
              refine fl_goto hm_184 rfl ?_
              refine ga_istore_n (lv2 := [(3, .int (Int32.ofInt 1)), (1, .long (Int64.ofInt z93_)), (0, .ref 344)]) hm_184 rfl (Nat.le_of_ble_eq_true rfl) rfl ?_
              refine fl_goto hm_184 rfl ?_
              have b1420_ : 0 ≤ K 1 6 ∧ K 1 6 ≤ 601 := gi_g hgK rfl
              have e1421_ : F6_ 5 2 = F 5 2 := (s8_ 5 2 rfl).trans (rfl)
              have e1422_ : F16_ 5 2 = F 5 2 := (s18_ 5 2 rfl).trans (e1421_)
              have e1423_ : F26_ 5 2 = F 5 2 := (s28_ 5 2 rfl).trans (e1422_)
              have e1424_ : F36_ 5 2 = F 5 2 := (s38_ 5 2 rfl).trans (e1423_)
              have e1425_ : F48_ 5 2 = F 5 2 := (s50_ 5 2 rfl).trans (e1424_)
              have e1426_ : F57_ 5 2 = F 5 2 := (s59_ 5 2 rfl).trans (e1425_)
              have e1427_ : F67_ 5 2 = F 5 2 := (s69_ 5 2 rfl).trans (e1426_)
              have e1428_ : F77_ 5 2 = F 5 2 := (s79_ 5 2 rfl).trans (e1427_)
              have e1429_ : F87_ 5 2 = F 5 2 := (s89_ 5 2 rfl).trans (e1428_)
              have e1430_ : F99_ 5 2 = F 5 2 := (s101_ 5 2 rfl).trans (e1429_)
              have e1431_ : F1077_ 5 2 = F 5 2 := (s1079_ 5 2 rfl).trans (e1430_)
              have e1432_ : F1086_ 5 2 = F 5 2 := (s1088_ 5 2 rfl).trans (e1431_)
              have e1433_ : F1096_ 5 2 = F 5 2 := (s1098_ 5 2 rfl).trans (e1432_)
              have e1434_ : F1106_ 5 2 = F 5 2 := (s1108_ 5 2 rfl).trans (e1433_)
              have e1435_ : F1116_ 5 2 = F 5 2 := (s1118_ 5 2 rfl).trans (e1434_)
              have e1436_ : F1 5 2 = F 5 2 := (hf_F1 5 2 rfl).trans (e1435_)
              have e1437_ : F1408_ 5 2 = F 5 2 := (s1410_ 5 2 rfl).trans (e1436_)
              have b1438_ : 0 ≤ F 5 2 ∧ F 5 2 ≤ 600 := gi_g hgi rfl
              have b1439_ : 0 ≤ F1408_ 344 33 ∧ F1408_ 344 33 ≤ 6 := gi_g g1409_ rfl
              exact ih1125_ _ (by omega) (1) (l2_) (tl2_) F1408_ rfl g1409_ (fs_tr hf_F1 s1410_ rfl) (by omega) (⟨by omega, by omega⟩) (⟨by omega, by omega⟩) (ht2_)
            subst hA_
            subst hz_
            refine fl_if_ne hm_184 rfl ⟨by omega, by omega⟩ (fun _ => ?_) (fun h => absurd (by omega) h)
            refine fl_iconst hm_184 rfl ?_
            refine ga_istore_n (lv2 := [(3, .int (Int32.ofInt 0)), (1, .long (Int64.ofInt z93_)), (0, .ref 344)]) hm_184 rfl (Nat.le_of_ble_eq_true rfl) rfl ?_
            refine fl_goto hm_184 rfl ?_
            have b1440_ : 0 ≤ K 1 6 ∧ K 1 6 ≤ 601 := gi_g hgK rfl
            have e1441_ : F6_ 5 2 = F 5 2 := (s8_ 5 2 rfl).trans (rfl)
            have e1442_ : F16_ 5 2 = F 5 2 := (s18_ 5 2 rfl).trans (e1441_)
            have e1443_ : F26_ 5 2 = F 5 2 := (s28_ 5 2 rfl).trans (e1442_)
            have e1444_ : F36_ 5 2 = F 5 2 := (s38_ 5 2 rfl).trans (e1443_)
            have e1445_ : F48_ 5 2 = F 5 2 := (s50_ 5 2 rfl).trans (e1444_)
            have e1446_ : F57_ 5 2 = F 5 2 := (s59_ 5 2 rfl).trans (e1445_)
            have e1447_ : F67_ 5 2 = F 5 2 := (s69_ 5 2 rfl).trans (e1446_)
            have e1448_ : F77_ 5 2 = F 5 2 := (s79_ 5 2 rfl).trans (e1447_)
            have e1449_ : F87_ 5 2 = F 5 2 := (s89_ 5 2 rfl).trans (e1448_)
            have e1450_ : F99_ 5 2 = F 5 2 := (s101_ 5 2 rfl).trans (e1449_)
            have e1451_ : F1077_ 5 2 = F 5 2 := (s1079_ 5 2 rfl).trans (e1450_)
            have e1452_ : F1086_ 5 2 = F 5 2 := (s1088_ 5 2 rfl).trans (e1451_)
            have e1453_ : F1096_ 5 2 = F 5 2 := (s1098_ 5 2 rfl).trans (e1452_)
            have e1454_ : F1106_ 5 2 = F 5 2 := (s1108_ 5 2 rfl).trans (e1453_)
            have e1455_ : F1116_ 5 2 = F 5 2 := (s1118_ 5 2 rfl).trans (e1454_)
            have e1456_ : F1 5 2 = F 5 2 := (hf_F1 5 2 rfl).trans (e1455_)
            have e1457_ : F1408_ 5 2 = F 5 2 := (s1410_ 5 2 rfl).trans (e1456_)
            have b1458_ : 0 ≤ F 5 2 ∧ F 5 2 ≤ 600 := gi_g hgi rfl
            have b1459_ : 0 ≤ F1408_ 344 33 ∧ F1408_ 344 33 ≤ 6 := gi_g g1409_ rfl
            exact ih1125_ _ (by omega) (0) (l2_) (tl2_) F1408_ rfl g1409_ (fs_tr hf_F1 s1410_ rfl) (by omega) (⟨by omega, by omega⟩) (⟨by omega, by omega⟩) (ht2_)
          refine ga_aload_n (v := .ref 344) hm_184 rfl rfl rfl ?_
          refine fl_bipush hm_184 rfl rfl ?_
          have b1460_ : 0 ≤ F1408_ 344 5 ∧ F1408_ 344 5 ≤ 600 := gi_g g1409_ rfl
          refine gVi (nY := 2) (F := 1) (L := 20) (As := [.int (Int32.ofInt 41)]) (b := 344) (rest := []) hm_184 rfl hm_52 rfl rfl (fl_ob sc_344) rfl rfl rfl rfl rfl (by omega) (by omega) (mc_52 hG F1408_ X g1409_ (K) (41) hgK rk1412_ hkt (⟨by omega, by omega⟩) (by omega)) (fun _ _ h => False.elim h) ?_
          rintro z1461_ A1_ (⟨hA_, hz_, c1462_⟩ | ⟨hA_, hz_, c1463_, c1464_⟩)
          ·
            subst hA_
            subst hz_
            refine fl_if_ne hm_184 rfl ⟨by omega, by omega⟩ (fun h => absurd h (by omega)) (fun _ => ?_)
            refine fl_iconst hm_184 rfl ?_
            refine fl_goto hm_184 rfl ?_
            refine ga_istore_n (lv2 := [(3, .int (Int32.ofInt 1)), (1, .long (Int64.ofInt z93_)), (0, .ref 344)]) hm_184 rfl (Nat.le_of_ble_eq_true rfl) rfl ?_
            refine fl_goto hm_184 rfl ?_
            refine ga_iload_n (z := 1) hm_184 rfl rfl ?_
            refine fl_if_eq hm_184 rfl ⟨by omega, by omega⟩ (fun h => absurd h (by omega)) (fun _ => ?_)
            refine ga_aload_n (v := .ref 344) hm_184 rfl rfl rfl ?_
            refine gIi (nY := 1) (F := 0) (L := 0) (As := []) (b := 344) (rest := []) hm_184 rfl hm_59 rfl rfl (fl_ob sc_344) rfl rfl rfl rfl rfl (by omega) (by omega) ?_
            intro f1465_ l1466_ h1467_ h1468_
            show fl_R xi_ms 59 f1465_ l1466_ 0 [(0, .ref 344)] [] _ _
            refine ga_aload_n (v := .ref 344) hm_59 rfl rfl rfl ?_
            refine ga_geti (z := F1408_ 344 9) hm_59 rfl sc_344 rfl (rfl) ?_
            refine fl_if_le (a := F1408_ 344 9) hm_59 rfl ⟨by omega, by omega⟩ (fun h1469_ => ?_) (fun h1470_ => ?_)
            · exfalso; omega
            refine fl_iconst hm_59 rfl ?_
            refine fl_goto hm_59 rfl ?_
            refine gr_i hm_59 rfl rfl (ga_nb (by omega)) ?_
            clear h1467_ h1468_ f1465_ l1466_
            refine fl_if_ne hm_184 rfl ⟨by omega, by omega⟩ (fun _ => ?_) (fun h => absurd (by omega) h)
            refine ga_aload_n (v := .ref 344) hm_184 rfl rfl rfl ?_
            refine fl_bipush hm_184 rfl rfl ?_
            refine gVv (nY := 2) (F := 2) (L := 41) (As := [.int (Int32.ofInt 41)]) (b := 344) (rest := []) hm_184 rfl hm_51 rfl rfl (fl_ob sc_344) rfl rfl rfl rfl rfl (by omega) (by omega) (mc_51s hG F1408_ X g1409_ (K) (41) (1) hgK rk1412_ hkt (⟨by omega, by omega⟩) (by omega) (by omega)) (fun _ _ h => False.elim h) ?_
            rintro A1_ ⟨F1474_, hA_, g1475_, s1476_, c1472_, c1473_⟩
            subst hA_
            have g1477_ : fs [(344, 344, 5, 5), (344, 344, 9, 10), (344, 344, 33, 33), (344, 344, 36, 36), (344, 344, 64, 64), (358, 358, 0, 100000), (360, 366, 0, 100000)] F F1474_ := fs_tr g1411_ s1476_ rfl
            have rk1478_ : rk K F1474_ := rk_fs rk1412_ s1476_ (fs_rg rfl) rfl
            refine ga_aload_n (v := .ref 344) hm_184 rfl rfl rfl ?_
            refine gIi (nY := 1) (F := 0) (L := 0) (As := []) (b := 344) (rest := []) hm_184 rfl hm_59 rfl rfl (fl_ob sc_344) rfl rfl rfl rfl rfl (by omega) (by omega) ?_
            intro f1479_ l1480_ h1481_ h1482_
            show fl_R xi_ms 59 f1479_ l1480_ 0 [(0, .ref 344)] [] _ _
            refine ga_aload_n (v := .ref 344) hm_59 rfl rfl rfl ?_
            have b1483_ : 0 ≤ F1474_ 344 9 ∧ F1474_ 344 9 ≤ 5 := gi_g g1475_ rfl
            refine ga_geti (z := F1474_ 344 9) hm_59 rfl sc_344 rfl (rfl) ?_
            refine fl_if_le (a := F1474_ 344 9) hm_59 rfl ⟨by omega, by omega⟩ (fun h1484_ => ?_) (fun h1485_ => ?_)
            ·
              refine fl_iconst hm_59 rfl ?_
              refine gr_i hm_59 rfl rfl (ga_nb (by omega)) ?_
              clear h1481_ h1482_ f1479_ l1480_
              refine fl_if_ne hm_184 rfl ⟨by omega, by omega⟩ (fun h => absurd h (by omega)) (fun _ => ?_)
              refine ga_aload_n (v := .ref 344) hm_184 rfl rfl rfl ?_
              refine gVv (nY := 6) (F := 1) (L := 22) (As := []) (b := 344) (rest := []) hm_184 rfl hm_171 rfl rfl (fl_ob sc_344) rfl rfl rfl rfl rfl (by omega) (by omega) (mc_171 hG F1474_ X g1475_) (fun _ _ h => False.elim h) ?_
              rintro A1_ ⟨F1487_, hA_, g1488_, s1489_⟩
              subst hA_
              have g1490_ : fs [(344, 344, 5, 5), (344, 344, 9, 10), (344, 344, 33, 33), (344, 344, 36, 36), (344, 344, 64, 64), (358, 358, 0, 100000), (360, 366, 0, 100000)] F F1487_ := fs_tr g1477_ s1489_ rfl
              have rk1491_ : rk K F1487_ := rk_fs rk1478_ s1489_ (fs_rg rfl) rfl
              refine ga_aload_n (v := .ref 344) hm_184 rfl rfl rfl ?_
              refine fl_bipush hm_184 rfl rfl ?_
              have e1492_ : F1487_ 344 5 = F1474_ 344 5 := (s1489_ 344 5 rfl).trans (rfl)
              have b1493_ : 0 ≤ F1474_ 344 5 ∧ F1474_ 344 5 ≤ 600 := gi_g g1475_ rfl
              refine gVv (nY := 2) (F := 2) (L := 41) (As := [.int (Int32.ofInt 40)]) (b := 344) (rest := []) hm_184 rfl hm_51 rfl rfl (fl_ob sc_344) rfl rfl rfl rfl rfl (by omega) (by omega) (mc_51s hG F1487_ X g1488_ (K) (40) (0) hgK rk1491_ hkt (⟨by omega, by omega⟩) (by omega) (by omega)) (fun _ _ h => False.elim h) ?_
              have e1495_ : F1487_ 344 9 = F1474_ 344 9 := (s1489_ 344 9 rfl).trans (rfl)
              rintro A1_ ⟨F1498_, hA_, g1499_, s1500_, c1496_, c1497_⟩
              subst hA_
              have g1501_ : fs [(344, 344, 5, 5), (344, 344, 9, 10), (344, 344, 33, 33), (344, 344, 36, 36), (344, 344, 64, 64), (358, 358, 0, 100000), (360, 366, 0, 100000)] F F1498_ := fs_tr g1490_ s1500_ rfl
              have rk1502_ : rk K F1498_ := rk_fs rk1491_ s1500_ (fs_rg rfl) rfl
              try simp only [e1495_] at c1496_
              refine ga_aload_n (v := .ref 344) hm_184 rfl rfl rfl ?_
              refine fl_bipush hm_184 rfl rfl ?_
              have b1503_ : 0 ≤ F1498_ 344 5 ∧ F1498_ 344 5 ≤ 600 := gi_g g1499_ rfl
              refine gVv (nY := 2) (F := 2) (L := 44) (As := [.int (Int32.ofInt 16)]) (b := 344) (rest := []) hm_184 rfl hm_55 rfl rfl (fl_ob sc_344) rfl rfl rfl rfl rfl (by omega) (by omega) (mc_55s hG F1498_ X g1499_ (K) (16) ([58, 105, 110, 105, 116]) hgK rk1502_ hkt (⟨by omega, by omega⟩) (⟨by omega, by omega⟩) (by decide) (kw_16 rk1502_)) (fun _ _ h => False.elim h) ?_
              have b1505_ : 0 ≤ F1498_ 344 9 ∧ F1498_ 344 9 ≤ 5 := gi_g g1499_ rfl
              rintro A1_ ⟨F1508_, hA_, g1509_, s1510_, c1506_, c1507_⟩
              subst hA_
              have g1511_ : fs [(344, 344, 5, 5), (344, 344, 9, 10), (344, 344, 33, 33), (344, 344, 36, 36), (344, 344, 64, 64), (358, 358, 0, 100000), (360, 366, 0, 100000)] F F1508_ := fs_tr g1501_ s1510_ rfl
              have rk1512_ : rk K F1508_ := rk_fs rk1502_ s1510_ (fs_rg rfl) rfl
              refine ga_aload_n (v := .ref 344) hm_184 rfl rfl rfl ?_
              have b1513_ : 0 ≤ F1508_ 344 5 ∧ F1508_ 344 5 ≤ 600 := gi_g g1509_ rfl
              refine gVv (nY := 2) (F := 5) (L := 117) (As := []) (b := 344) (rest := []) hm_184 rfl hm_178 rfl rfl (fl_ob sc_344) rfl rfl rfl rfl rfl (by omega) (by omega) (mc_178 hG F1508_ X g1509_ (K) (l2_) (tl2_) (pl) (ps) hgK rk1512_ hkt (⟨by omega, by omega⟩) ((trm_fs (trm_fs (trm_fs (trm_fs ht2_.1 s1476_ (by first | exact fs_rg rfl | exact fun r j hj => (fs_n (by omega) (fs_n (by omega) rfl)))) s1489_ (by first | exact fs_rg rfl | exact fun r j hj => (fs_n (by omega) (fs_n (by omega) rfl)))) s1500_ (by first | exact fs_rg rfl | exact fun r j hj => (fs_n (by omega) (fs_n (by omega) rfl)))) s1510_ (by first | exact fs_rg rfl | exact fun r j hj => (fs_n (by omega) (fs_n (by omega) rfl))))) (ht2_.2) ((rpn_fs (rpn_fs (rpn_fs (rpn_fs (rpn_fs (rpn_fs (rpn_fs (rpn_fs (rpn_fs (rpn_fs (rpn_fs (rpn_fs (rpn_fs (rpn_fs (rpn_fs (rpn_fs (rpn_fs (rpn_fs (rpn_fs (rpn_fs (rpn_fs hpl s8_ (fun _ => (by first | exact fs_c rfl | exact (fs_n (by omega) (fs_n (by omega) rfl)))) (by first | exact fs_c rfl | exact (fs_n (by omega) (fs_n (by omega) rfl)))) s18_ (fun _ => (by first | exact fs_c rfl | exact (fs_n (by omega) (fs_n (by omega) rfl)))) (by first | exact fs_c rfl | exact (fs_n (by omega) (fs_n (by omega) rfl)))) s28_ (fun _ => (by first | exact fs_c rfl | exact (fs_n (by omega) (fs_n (by omega) rfl)))) (by first | exact fs_c rfl | exact (fs_n (by omega) (fs_n (by omega) rfl)))) s38_ (fun _ => (by first | exact fs_c rfl | exact (fs_n (by omega) (fs_n (by omega) rfl)))) (by first | exact fs_c rfl | exact (fs_n (by omega) (fs_n (by omega) rfl)))) s50_ (fun _ => (by first | exact fs_c rfl | exact (fs_n (by omega) rfl))) (by first | exact fs_c rfl | exact (fs_n (by omega) rfl))) s59_ (fun _ => (by first | exact fs_c rfl | exact (fs_n (by omega) rfl))) (by first | exact fs_c rfl | exact (fs_n (by omega) rfl))) s69_ (fun _ => (by first | exact fs_c rfl | exact (fs_n (by omega) (fs_n (by omega) rfl)))) (by first | exact fs_c rfl | exact (fs_n (by omega) (fs_n (by omega) rfl)))) s79_ (fun _ => (by first | exact fs_c rfl | exact (fs_n (by omega) (fs_n (by omega) rfl)))) (by first | exact fs_c rfl | exact (fs_n (by omega) (fs_n (by omega) rfl)))) s89_ (fun _ => (by first | exact fs_c rfl | exact (fs_n (by omega) (fs_n (by omega) rfl)))) (by first | exact fs_c rfl | exact (fs_n (by omega) (fs_n (by omega) rfl)))) s101_ (fun _ => (by first | exact fs_c rfl | exact (fs_n (by omega) rfl))) (by first | exact fs_c rfl | exact (fs_n (by omega) rfl))) s1079_ (fun _ => (by first | exact fs_c rfl | exact (fs_n (by omega) rfl))) (by first | exact fs_c rfl | exact (fs_n (by omega) rfl))) s1088_ (fun _ => (by first | exact fs_c rfl | exact (fs_n (by omega) rfl))) (by first | exact fs_c rfl | exact (fs_n (by omega) rfl))) s1098_ (fun _ => (by first | exact fs_c rfl | exact (fs_n (by omega) (fs_n (by omega) rfl)))) (by first | exact fs_c rfl | exact (fs_n (by omega) (fs_n (by omega) rfl)))) s1108_ (fun _ => (by first | exact fs_c rfl | exact (fs_n (by omega) (fs_n (by omega) rfl)))) (by first | exact fs_c rfl | exact (fs_n (by omega) (fs_n (by omega) rfl)))) s1118_ (fun _ => (by first | exact fs_c rfl | exact (fs_n (by omega) (fs_n (by omega) rfl)))) (by first | exact fs_c rfl | exact (fs_n (by omega) (fs_n (by omega) rfl)))) hf_F1 (fun _ => (by first | exact fs_c rfl | exact (fs_n (by omega) (fs_n (by omega) (fs_n (by omega) (fs_n (by omega) rfl)))))) (by first | exact fs_c rfl | exact (fs_n (by omega) (fs_n (by omega) (fs_n (by omega) (fs_n (by omega) rfl)))))) s1410_ (fun _ => (by first | exact fs_c rfl | exact (fs_n (by omega) (fs_n (by omega) (fs_n (by omega) (fs_n (by omega) rfl)))))) (by first | exact fs_c rfl | exact (fs_n (by omega) (fs_n (by omega) (fs_n (by omega) (fs_n (by omega) rfl)))))) s1476_ (fun _ => (by first | exact fs_c rfl | exact (fs_n (by omega) (fs_n (by omega) rfl)))) (by first | exact fs_c rfl | exact (fs_n (by omega) (fs_n (by omega) rfl)))) s1489_ (fun _ => (by first | exact fs_c rfl | exact (fs_n (by omega) (fs_n (by omega) rfl)))) (by first | exact fs_c rfl | exact (fs_n (by omega) (fs_n (by omega) rfl)))) s1500_ (fun _ => (by first | exact fs_c rfl | exact (fs_n (by omega) (fs_n (by omega) rfl)))) (by first | exact fs_c rfl | exact (fs_n (by omega) (fs_n (by omega) rfl)))) s1510_ (fun _ => (by first | exact fs_c rfl | exact (fs_n (by omega) (fs_n (by omega) rfl)))) (by first | exact fs_c rfl | exact (fs_n (by omega) (fs_n (by omega) rfl))))) (⟨(rprd_fs (rprd_fs (rprd_fs (rprd_fs (rprd_fs (rprd_fs (rprd_fs (rprd_fs (rprd_fs (rprd_fs (rprd_fs (rprd_fs (rprd_fs (rprd_fs (rprd_fs (rprd_fs (rprd_fs (rprd_fs (rprd_fs (rprd_fs (rprd_fs hps.1 s8_ (by first | exact fs_rg rfl | exact fun r j hj => (fs_n (by omega) (fs_n (by omega) rfl)))) s18_ (by first | exact fs_rg rfl | exact fun r j hj => (fs_n (by omega) (fs_n (by omega) rfl)))) s28_ (by first | exact fs_rg rfl | exact fun r j hj => (fs_n (by omega) (fs_n (by omega) rfl)))) s38_ (by first | exact fs_rg rfl | exact fun r j hj => (fs_n (by omega) (fs_n (by omega) rfl)))) s50_ (by first | exact fs_rg rfl | exact fun r j hj => (fs_n (by omega) rfl))) s59_ (by first | exact fs_rg rfl | exact fun r j hj => (fs_n (by omega) rfl))) s69_ (by first | exact fs_rg rfl | exact fun r j hj => (fs_n (by omega) (fs_n (by omega) rfl)))) s79_ (by first | exact fs_rg rfl | exact fun r j hj => (fs_n (by omega) (fs_n (by omega) rfl)))) s89_ (by first | exact fs_rg rfl | exact fun r j hj => (fs_n (by omega) (fs_n (by omega) rfl)))) s101_ (by first | exact fs_rg rfl | exact fun r j hj => (fs_n (by omega) rfl))) s1079_ (by first | exact fs_rg rfl | exact fun r j hj => (fs_n (by omega) rfl))) s1088_ (by first | exact fs_rg rfl | exact fun r j hj => (fs_n (by omega) rfl))) s1098_ (by first | exact fs_rg rfl | exact fun r j hj => (fs_n (by omega) (fs_n (by omega) rfl)))) s1108_ (by first | exact fs_rg rfl | exact fun r j hj => (fs_n (by omega) (fs_n (by omega) rfl)))) s1118_ (by first | exact fs_rg rfl | exact fun r j hj => (fs_n (by omega) (fs_n (by omega) rfl)))) hf_F1 (by first | exact fs_rg rfl | exact fun r j hj => (fs_n (by omega) (fs_n (by omega) (fs_n (by omega) (fs_n (by omega) rfl)))))) s1410_ (by first | exact fs_rg rfl | exact fun r j hj => (fs_n (by omega) (fs_n (by omega) (fs_n (by omega) (fs_n (by omega) rfl)))))) s1476_ (by first | exact fs_rg rfl | exact fun r j hj => (fs_n (by omega) (fs_n (by omega) rfl)))) s1489_ (by first | exact fs_rg rfl | exact fun r j hj => (fs_n (by omega) (fs_n (by omega) rfl)))) s1500_ (by first | exact fs_rg rfl | exact fun r j hj => (fs_n (by omega) (fs_n (by omega) rfl)))) s1510_ (by first | exact fs_rg rfl | exact fun r j hj => (fs_n (by omega) (fs_n (by omega) rfl)))), hps.2⟩)) (fun _ _ h => False.elim h) ?_
              have b1515_ : 0 ≤ F1508_ 344 9 ∧ F1508_ 344 9 ≤ 5 := gi_g g1509_ rfl
              rintro A1_ ⟨F1518_, hA_, g1519_, s1520_, c1516_, c1517_⟩
              subst hA_
              have g1521_ : fs [(344, 344, 5, 5), (344, 344, 9, 10), (344, 344, 33, 33), (344, 344, 36, 36), (344, 344, 64, 64), (358, 358, 0, 100000), (360, 366, 0, 100000)] F F1518_ := fs_tr g1511_ s1520_ rfl
              have rk1522_ : rk K F1518_ := rk_fs rk1512_ s1520_ (fs_rg rfl) rfl
              refine ga_aload_n (v := .ref 344) hm_184 rfl rfl rfl ?_
              refine fl_bipush hm_184 rfl rfl ?_
              have b1523_ : 0 ≤ F1518_ 344 5 ∧ F1518_ 344 5 ≤ 600 := gi_g g1519_ rfl
              refine gVv (nY := 2) (F := 2) (L := 41) (As := [.int (Int32.ofInt 41)]) (b := 344) (rest := []) hm_184 rfl hm_51 rfl rfl (fl_ob sc_344) rfl rfl rfl rfl rfl (by omega) (by omega) (mc_51s hG F1518_ X g1519_ (K) (41) (1) hgK rk1522_ hkt (⟨by omega, by omega⟩) (by omega) (by omega)) (fun _ _ h => False.elim h) ?_
              have b1525_ : 0 ≤ F1518_ 344 9 ∧ F1518_ 344 9 ≤ 5 := gi_g g1519_ rfl
              rintro A1_ ⟨F1528_, hA_, g1529_, s1530_, c1526_, c1527_⟩
              subst hA_
              have g1531_ : fs [(344, 344, 5, 5), (344, 344, 9, 10), (344, 344, 33, 33), (344, 344, 36, 36), (344, 344, 64, 64), (358, 358, 0, 100000), (360, 366, 0, 100000)] F F1528_ := fs_tr g1521_ s1530_ rfl
              have rk1532_ : rk K F1528_ := rk_fs rk1522_ s1530_ (fs_rg rfl) rfl
              refine ga_aload_n (v := .ref 344) hm_184 rfl rfl rfl ?_
              refine fl_bipush hm_184 rfl rfl ?_
              have b1533_ : 0 ≤ F1528_ 344 5 ∧ F1528_ 344 5 ≤ 600 := gi_g g1529_ rfl
              refine gVv (nY := 2) (F := 2) (L := 41) (As := [.int (Int32.ofInt 40)]) (b := 344) (rest := []) hm_184 rfl hm_51 rfl rfl (fl_ob sc_344) rfl rfl rfl rfl rfl (by omega) (by omega) (mc_51s hG F1528_ X g1529_ (K) (40) (0) hgK rk1532_ hkt (⟨by omega, by omega⟩) (by omega) (by omega)) (fun _ _ h => False.elim h) ?_
              have b1535_ : 0 ≤ F1528_ 344 9 ∧ F1528_ 344 9 ≤ 5 := gi_g g1529_ rfl
              rintro A1_ ⟨F1538_, hA_, g1539_, s1540_, c1536_, c1537_⟩
              subst hA_
              have g1541_ : fs [(344, 344, 5, 5), (344, 344, 9, 10), (344, 344, 33, 33), (344, 344, 36, 36), (344, 344, 64, 64), (358, 358, 0, 100000), (360, 366, 0, 100000)] F F1538_ := fs_tr g1531_ s1540_ rfl
              have rk1542_ : rk K F1538_ := rk_fs rk1532_ s1540_ (fs_rg rfl) rfl
              refine ga_aload_n (v := .ref 344) hm_184 rfl rfl rfl ?_
              refine fl_bipush hm_184 rfl rfl ?_
              have b1543_ : 0 ≤ F1538_ 344 5 ∧ F1538_ 344 5 ≤ 600 := gi_g g1539_ rfl
              refine gVv (nY := 2) (F := 2) (L := 44) (As := [.int (Int32.ofInt 17)]) (b := 344) (rest := []) hm_184 rfl hm_55 rfl rfl (fl_ob sc_344) rfl rfl rfl rfl rfl (by omega) (by omega) (mc_55s hG F1538_ X g1539_ (K) (17) ([58, 103, 111, 97, 108]) hgK rk1542_ hkt (⟨by omega, by omega⟩) (⟨by omega, by omega⟩) (by decide) (kw_17 rk1542_)) (fun _ _ h => False.elim h) ?_
              have b1545_ : 0 ≤ F1538_ 344 9 ∧ F1538_ 344 9 ≤ 5 := gi_g g1539_ rfl
              rintro A1_ ⟨F1548_, hA_, g1549_, s1550_, c1546_, c1547_⟩
              subst hA_
              have g1551_ : fs [(344, 344, 5, 5), (344, 344, 9, 10), (344, 344, 33, 33), (344, 344, 36, 36), (344, 344, 64, 64), (358, 358, 0, 100000), (360, 366, 0, 100000)] F F1548_ := fs_tr g1541_ s1550_ rfl
              have rk1552_ : rk K F1548_ := rk_fs rk1542_ s1550_ (fs_rg rfl) rfl
              refine ga_aload_n (v := .ref 344) hm_184 rfl rfl rfl ?_
              refine ga_getr (b := 358) hm_184 rfl sc_344 rfl ?_
              refine fl_iconst hm_184 rfl ?_
              refine fl_iconst hm_184 rfl ?_
              refine fl_iast (z := 5) (v := 0) hm_184 rfl sc_358 (by omega) (by omega) (by omega) ?_
              refine ga_aload_n (v := .ref 344) hm_184 rfl rfl rfl ?_
              refine fl_iconst hm_184 rfl ?_
              refine fl_bipush hm_184 rfl rfl ?_
              obtain ⟨F1553_, q1554_⟩ : ∃ Fq_, Fq_ = (fl_u F1548_ 358 (5 : Int).toNat 0) := ⟨_, rfl⟩
              rw [← q1554_]
              have g1555_ : gi F1553_ := by rw [q1554_]; exact gi_u (g1549_) rfl (by omega) (by omega)
              have g1556_ : fs [(344, 344, 5, 5), (344, 344, 9, 10), (344, 344, 33, 33), (344, 344, 36, 36), (344, 344, 64, 64), (358, 358, 0, 100000), (360, 366, 0, 100000)] F F1553_ := by rw [q1554_]; exact fs_u (g1551_) rfl
              have rk1557_ : rk K F1553_ := by rw [q1554_]; exact rk_u (rk1552_) (by first | decide | exact nc_ rfl | omega) (by first | decide | exact nc_ rfl | omega)
              have e1558_ : F1553_ 344 5 = F1548_ 344 5 := by rw [q1554_]; exact fl_u_ne (by first | exact nc_ rfl | decide | omega)
              have b1559_ : 0 ≤ F1548_ 344 5 ∧ F1548_ 344 5 ≤ 600 := gi_g g1549_ rfl
              refine gVv (nY := 4) (F := 6) (L := 142) (As := [.int (Int32.ofInt 5), .int (Int32.ofInt 40)]) (b := 344) (rest := []) hm_184 rfl hm_175 rfl rfl (fl_ob sc_344) rfl rfl rfl rfl rfl (by omega) (by omega) (mc_175s hG F1553_ X g1555_ (K) (5) (40) (2) (l2_) (tl2_) (pl) (ps) hgK rk1557_ hkt (⟨by omega, by omega⟩) ((by rw [q1554_]; exact (trm_u (trm_fs (trm_fs (trm_fs (trm_fs (trm_fs (trm_fs (trm_fs (trm_fs ht2_.1 s1476_ (by first | exact fs_rg rfl | exact fun r j hj => (fs_n (by omega) (fs_n (by omega) rfl)))) s1489_ (by first | exact fs_rg rfl | exact fun r j hj => (fs_n (by omega) (fs_n (by omega) rfl)))) s1500_ (by first | exact fs_rg rfl | exact fun r j hj => (fs_n (by omega) (fs_n (by omega) rfl)))) s1510_ (by first | exact fs_rg rfl | exact fun r j hj => (fs_n (by omega) (fs_n (by omega) rfl)))) s1520_ (by first | exact fs_rg rfl | exact fun r j hj => (fs_n (by omega) (fs_n (by omega) (fs_n (by omega) (fs_n (by omega) rfl)))))) s1530_ (by first | exact fs_rg rfl | exact fun r j hj => (fs_n (by omega) (fs_n (by omega) rfl)))) s1540_ (by first | exact fs_rg rfl | exact fun r j hj => (fs_n (by omega) (fs_n (by omega) rfl)))) s1550_ (by first | exact fs_rg rfl | exact fun r j hj => (fs_n (by omega) (fs_n (by omega) rfl)))) (by first | decide | exact nc_ rfl | omega)))) (ht2_.2) (⟨by omega, by omega⟩) ((by rw [q1554_]; exact (rpn_u (rpn_fs (rpn_fs (rpn_fs (rpn_fs (rpn_fs (rpn_fs (rpn_fs (rpn_fs (rpn_fs (rpn_fs (rpn_fs (rpn_fs (rpn_fs (rpn_fs (rpn_fs (rpn_fs (rpn_fs (rpn_fs (rpn_fs (rpn_fs (rpn_fs (rpn_fs (rpn_fs (rpn_fs (rpn_fs hpl s8_ (fun _ => (by first | exact fs_c rfl | exact (fs_n (by omega) (fs_n (by omega) rfl)))) (by first | exact fs_c rfl | exact (fs_n (by omega) (fs_n (by omega) rfl)))) s18_ (fun _ => (by first | exact fs_c rfl | exact (fs_n (by omega) (fs_n (by omega) rfl)))) (by first | exact fs_c rfl | exact (fs_n (by omega) (fs_n (by omega) rfl)))) s28_ (fun _ => (by first | exact fs_c rfl | exact (fs_n (by omega) (fs_n (by omega) rfl)))) (by first | exact fs_c rfl | exact (fs_n (by omega) (fs_n (by omega) rfl)))) s38_ (fun _ => (by first | exact fs_c rfl | exact (fs_n (by omega) (fs_n (by omega) rfl)))) (by first | exact fs_c rfl | exact (fs_n (by omega) (fs_n (by omega) rfl)))) s50_ (fun _ => (by first | exact fs_c rfl | exact (fs_n (by omega) rfl))) (by first | exact fs_c rfl | exact (fs_n (by omega) rfl))) s59_ (fun _ => (by first | exact fs_c rfl | exact (fs_n (by omega) rfl))) (by first | exact fs_c rfl | exact (fs_n (by omega) rfl))) s69_ (fun _ => (by first | exact fs_c rfl | exact (fs_n (by omega) (fs_n (by omega) rfl)))) (by first | exact fs_c rfl | exact (fs_n (by omega) (fs_n (by omega) rfl)))) s79_ (fun _ => (by first | exact fs_c rfl | exact (fs_n (by omega) (fs_n (by omega) rfl)))) (by first | exact fs_c rfl | exact (fs_n (by omega) (fs_n (by omega) rfl)))) s89_ (fun _ => (by first | exact fs_c rfl | exact (fs_n (by omega) (fs_n (by omega) rfl)))) (by first | exact fs_c rfl | exact (fs_n (by omega) (fs_n (by omega) rfl)))) s101_ (fun _ => (by first | exact fs_c rfl | exact (fs_n (by omega) rfl))) (by first | exact fs_c rfl | exact (fs_n (by omega) rfl))) s1079_ (fun _ => (by first | exact fs_c rfl | exact (fs_n (by omega) rfl))) (by first | exact fs_c rfl | exact (fs_n (by omega) rfl))) s1088_ (fun _ => (by first | exact fs_c rfl | exact (fs_n (by omega) rfl))) (by first | exact fs_c rfl | exact (fs_n (by omega) rfl))) s1098_ (fun _ => (by first | exact fs_c rfl | exact (fs_n (by omega) (fs_n (by omega) rfl)))) (by first | exact fs_c rfl | exact (fs_n (by omega) (fs_n (by omega) rfl)))) s1108_ (fun _ => (by first | exact fs_c rfl | exact (fs_n (by omega) (fs_n (by omega) rfl)))) (by first | exact fs_c rfl | exact (fs_n (by omega) (fs_n (by omega) rfl)))) s1118_ (fun _ => (by first | exact fs_c rfl | exact (fs_n (by omega) (fs_n (by omega) rfl)))) (by first | exact fs_c rfl | exact (fs_n (by omega) (fs_n (by omega) rfl)))) hf_F1 (fun _ => (by first | exact fs_c rfl | exact (fs_n (by omega) (fs_n (by omega) (fs_n (by omega) (fs_n (by omega) rfl)))))) (by first | exact fs_c rfl | exact (fs_n (by omega) (fs_n (by omega) (fs_n (by omega) (fs_n (by omega) rfl)))))) s1410_ (fun _ => (by first | exact fs_c rfl | exact (fs_n (by omega) (fs_n (by omega) (fs_n (by omega) (fs_n (by omega) rfl)))))) (by first | exact fs_c rfl | exact (fs_n (by omega) (fs_n (by omega) (fs_n (by omega) (fs_n (by omega) rfl)))))) s1476_ (fun _ => (by first | exact fs_c rfl | exact (fs_n (by omega) (fs_n (by omega) rfl)))) (by first | exact fs_c rfl | exact (fs_n (by omega) (fs_n (by omega) rfl)))) s1489_ (fun _ => (by first | exact fs_c rfl | exact (fs_n (by omega) (fs_n (by omega) rfl)))) (by first | exact fs_c rfl | exact (fs_n (by omega) (fs_n (by omega) rfl)))) s1500_ (fun _ => (by first | exact fs_c rfl | exact (fs_n (by omega) (fs_n (by omega) rfl)))) (by first | exact fs_c rfl | exact (fs_n (by omega) (fs_n (by omega) rfl)))) s1510_ (fun _ => (by first | exact fs_c rfl | exact (fs_n (by omega) (fs_n (by omega) rfl)))) (by first | exact fs_c rfl | exact (fs_n (by omega) (fs_n (by omega) rfl)))) s1520_ (fun _ => (by first | exact fs_c rfl | exact (fs_n (by omega) (fs_n (by omega) (fs_n (by omega) (fs_n (by omega) rfl)))))) (by first | exact fs_c rfl | exact (fs_n (by omega) (fs_n (by omega) (fs_n (by omega) (fs_n (by omega) rfl)))))) s1530_ (fun _ => (by first | exact fs_c rfl | exact (fs_n (by omega) (fs_n (by omega) rfl)))) (by first | exact fs_c rfl | exact (fs_n (by omega) (fs_n (by omega) rfl)))) s1540_ (fun _ => (by first | exact fs_c rfl | exact (fs_n (by omega) (fs_n (by omega) rfl)))) (by first | exact fs_c rfl | exact (fs_n (by omega) (fs_n (by omega) rfl)))) s1550_ (fun _ => (by first | exact fs_c rfl | exact (fs_n (by omega) (fs_n (by omega) rfl)))) (by first | exact fs_c rfl | exact (fs_n (by omega) (fs_n (by omega) rfl)))) (by first | decide | exact nc_ rfl | omega) (by first | decide | exact nc_ rfl | omega)))) (⟨(by rw [q1554_]; exact (rprd_u (rprd_fs (rprd_fs (rprd_fs (rprd_fs (rprd_fs (rprd_fs (rprd_fs (rprd_fs (rprd_fs (rprd_fs (rprd_fs (rprd_fs (rprd_fs (rprd_fs (rprd_fs (rprd_fs (rprd_fs (rprd_fs (rprd_fs (rprd_fs (rprd_fs (rprd_fs (rprd_fs (rprd_fs (rprd_fs hps.1 s8_ (by first | exact fs_rg rfl | exact fun r j hj => (fs_n (by omega) (fs_n (by omega) rfl)))) s18_ (by first | exact fs_rg rfl | exact fun r j hj => (fs_n (by omega) (fs_n (by omega) rfl)))) s28_ (by first | exact fs_rg rfl | exact fun r j hj => (fs_n (by omega) (fs_n (by omega) rfl)))) s38_ (by first | exact fs_rg rfl | exact fun r j hj => (fs_n (by omega) (fs_n (by omega) rfl)))) s50_ (by first | exact fs_rg rfl | exact fun r j hj => (fs_n (by omega) rfl))) s59_ (by first | exact fs_rg rfl | exact fun r j hj => (fs_n (by omega) rfl))) s69_ (by first | exact fs_rg rfl | exact fun r j hj => (fs_n (by omega) (fs_n (by omega) rfl)))) s79_ (by first | exact fs_rg rfl | exact fun r j hj => (fs_n (by omega) (fs_n (by omega) rfl)))) s89_ (by first | exact fs_rg rfl | exact fun r j hj => (fs_n (by omega) (fs_n (by omega) rfl)))) s101_ (by first | exact fs_rg rfl | exact fun r j hj => (fs_n (by omega) rfl))) s1079_ (by first | exact fs_rg rfl | exact fun r j hj => (fs_n (by omega) rfl))) s1088_ (by first | exact fs_rg rfl | exact fun r j hj => (fs_n (by omega) rfl))) s1098_ (by first | exact fs_rg rfl | exact fun r j hj => (fs_n (by omega) (fs_n (by omega) rfl)))) s1108_ (by first | exact fs_rg rfl | exact fun r j hj => (fs_n (by omega) (fs_n (by omega) rfl)))) s1118_ (by first | exact fs_rg rfl | exact fun r j hj => (fs_n (by omega) (fs_n (by omega) rfl)))) hf_F1 (by first | exact fs_rg rfl | exact fun r j hj => (fs_n (by omega) (fs_n (by omega) (fs_n (by omega) (fs_n (by omega) rfl)))))) s1410_ (by first | exact fs_rg rfl | exact fun r j hj => (fs_n (by omega) (fs_n (by omega) (fs_n (by omega) (fs_n (by omega) rfl)))))) s1476_ (by first | exact fs_rg rfl | exact fun r j hj => (fs_n (by omega) (fs_n (by omega) rfl)))) s1489_ (by first | exact fs_rg rfl | exact fun r j hj => (fs_n (by omega) (fs_n (by omega) rfl)))) s1500_ (by first | exact fs_rg rfl | exact fun r j hj => (fs_n (by omega) (fs_n (by omega) rfl)))) s1510_ (by first | exact fs_rg rfl | exact fun r j hj => (fs_n (by omega) (fs_n (by omega) rfl)))) s1520_ (by first | exact fs_rg rfl | exact fun r j hj => (fs_n (by omega) (fs_n (by omega) (fs_n (by omega) (fs_n (by omega) rfl)))))) s1530_ (by first | exact fs_rg rfl | exact fun r j hj => (fs_n (by omega) (fs_n (by omega) rfl)))) s1540_ (by first | exact fs_rg rfl | exact fun r j hj => (fs_n (by omega) (fs_n (by omega) rfl)))) s1550_ (by first | exact fs_rg rfl | exact fun r j hj => (fs_n (by omega) (fs_n (by omega) rfl)))) (by first | decide | exact nc_ rfl | omega))), hps.2⟩) (⟨by omega, by omega⟩) (Or.inr (by omega)) (by rw [q1554_]; exact fl_u_eq)) (fun _ _ h => False.elim h) ?_
              have e1561_ : F1553_ 344 9 = F1548_ 344 9 := by rw [q1554_]; exact fl_u_ne (by first | exact nc_ rfl | decide | omega)
              have b1562_ : 0 ≤ F1548_ 344 9 ∧ F1548_ 344 9 ≤ 5 := gi_g g1549_ rfl
              rintro A1_ ⟨F1565_, hA_, g1566_, s1567_, c1563_, c1564_⟩
              subst hA_
              have g1568_ : fs [(344, 344, 5, 5), (344, 344, 9, 10), (344, 344, 33, 33), (344, 344, 36, 36), (344, 344, 64, 64), (358, 358, 0, 100000), (360, 366, 0, 100000)] F F1565_ := fs_tr g1556_ s1567_ rfl
              have rk1569_ : rk K F1565_ := rk_fs rk1557_ s1567_ (fs_rg rfl) rfl
              try simp only [e1561_] at c1563_
              refine ga_aload_n (v := .ref 344) hm_184 rfl rfl rfl ?_
              refine fl_bipush hm_184 rfl rfl ?_
              have b1570_ : 0 ≤ F1565_ 344 5 ∧ F1565_ 344 5 ≤ 600 := gi_g g1566_ rfl
              refine gVv (nY := 2) (F := 2) (L := 41) (As := [.int (Int32.ofInt 41)]) (b := 344) (rest := []) hm_184 rfl hm_51 rfl rfl (fl_ob sc_344) rfl rfl rfl rfl rfl (by omega) (by omega) (mc_51s hG F1565_ X g1566_ (K) (41) (1) hgK rk1569_ hkt (⟨by omega, by omega⟩) (by omega) (by omega)) (fun _ _ h => False.elim h) ?_
              have b1572_ : 0 ≤ F1565_ 344 9 ∧ F1565_ 344 9 ≤ 5 := gi_g g1566_ rfl
              rintro A1_ ⟨F1575_, hA_, g1576_, s1577_, c1573_, c1574_⟩
              subst hA_
              have g1578_ : fs [(344, 344, 5, 5), (344, 344, 9, 10), (344, 344, 33, 33), (344, 344, 36, 36), (344, 344, 64, 64), (358, 358, 0, 100000), (360, 366, 0, 100000)] F F1575_ := fs_tr g1568_ s1577_ rfl
              have rk1579_ : rk K F1575_ := rk_fs rk1569_ s1577_ (fs_rg rfl) rfl
              refine ga_aload_n (v := .ref 344) hm_184 rfl rfl rfl ?_
              refine fl_bipush hm_184 rfl rfl ?_
              have b1580_ : 0 ≤ F1575_ 344 5 ∧ F1575_ 344 5 ≤ 600 := gi_g g1576_ rfl
              refine gVv (nY := 2) (F := 2) (L := 41) (As := [.int (Int32.ofInt 41)]) (b := 344) (rest := []) hm_184 rfl hm_51 rfl rfl (fl_ob sc_344) rfl rfl rfl rfl rfl (by omega) (by omega) (mc_51s hG F1575_ X g1576_ (K) (41) (1) hgK rk1579_ hkt (⟨by omega, by omega⟩) (by omega) (by omega)) (fun _ _ h => False.elim h) ?_
              have b1582_ : 0 ≤ F1575_ 344 9 ∧ F1575_ 344 9 ≤ 5 := gi_g g1576_ rfl
              rintro A1_ ⟨F1585_, hA_, g1586_, s1587_, c1583_, c1584_⟩
              subst hA_
              have g1588_ : fs [(344, 344, 5, 5), (344, 344, 9, 10), (344, 344, 33, 33), (344, 344, 36, 36), (344, 344, 64, 64), (358, 358, 0, 100000), (360, 366, 0, 100000)] F F1585_ := fs_tr g1578_ s1587_ rfl
              have rk1589_ : rk K F1585_ := rk_fs rk1579_ s1587_ (fs_rg rfl) rfl
              refine ga_aload_n (v := .ref 344) hm_184 rfl rfl rfl ?_
              refine gIi (nY := 1) (F := 0) (L := 0) (As := []) (b := 344) (rest := []) hm_184 rfl hm_59 rfl rfl (fl_ob sc_344) rfl rfl rfl rfl rfl (by omega) (by omega) ?_
              intro f1590_ l1591_ h1592_ h1593_
              show fl_R xi_ms 59 f1590_ l1591_ 0 [(0, .ref 344)] [] _ _
              refine ga_aload_n (v := .ref 344) hm_59 rfl rfl rfl ?_
              have b1594_ : 0 ≤ F1585_ 344 9 ∧ F1585_ 344 9 ≤ 5 := gi_g g1586_ rfl
              refine ga_geti (z := F1585_ 344 9) hm_59 rfl sc_344 rfl (rfl) ?_
              refine fl_if_le (a := F1585_ 344 9) hm_59 rfl ⟨by omega, by omega⟩ (fun h1595_ => ?_) (fun h1596_ => ?_)
              ·
                refine fl_iconst hm_59 rfl ?_
                refine gr_i hm_59 rfl rfl (ga_nb (by omega)) ?_
                clear h1592_ h1593_ f1590_ l1591_
                refine fl_if_ne hm_184 rfl ⟨by omega, by omega⟩ (fun h => absurd h (by omega)) (fun _ => ?_)
                refine ga_aload_n (v := .ref 344) hm_184 rfl rfl rfl ?_
                have b1597_ : 0 ≤ F1585_ 344 5 ∧ F1585_ 344 5 ≤ 600 := gi_g g1586_ rfl
                refine ga_geti (z := F1585_ 344 5) hm_184 rfl sc_344 rfl (rfl) ?_
                refine ga_aload_n (v := .ref 344) hm_184 rfl rfl rfl ?_
                have e1598_ : F1585_ 344 4 = K 1 6 - 1 := rk1589_.2.1
                refine ga_geti (z := K 1 6 - 1) hm_184 rfl sc_344 rfl (e1598_) ?_
                refine fl_icmp_ge (a := F1585_ 344 5) (b := K 1 6 - 1) hm_184 rfl ⟨by omega, by omega⟩ ⟨by omega, by omega⟩ (fun h1599_ => ?_) (fun h1600_ => ?_)
                ·
                  refine gr_v hm_184 rfl rfl ?_
                  exact ⟨F1585_, rfl, g1586_, g1588_, (⟨by omega, by omega⟩)⟩
                refine ga_aload_n (v := .ref 344) hm_184 rfl rfl rfl ?_
                refine fl_iconst hm_184 rfl ?_
                refine gVv (nY := 2) (F := 0) (L := 0) (As := [.int (Int32.ofInt 1)]) (b := 344) (rest := []) hm_184 rfl hm_54 rfl rfl (fl_ob sc_344) rfl rfl rfl rfl rfl (by omega) (by omega) (mc_54 hG F1585_ X g1586_ (K) (1) hgK rk1589_ hkt (⟨by omega, by omega⟩) (⟨by omega, by omega⟩)) (fun _ _ h => False.elim h) ?_
                have b1602_ : 0 ≤ F1585_ 344 10 ∧ F1585_ 344 10 ≤ 600 := gi_g g1586_ rfl
                rintro A1_ ⟨F1606_, hA_, g1607_, s1608_, c1603_, c1604_, c1605_⟩
                subst hA_
                have g1609_ : fs [(344, 344, 5, 5), (344, 344, 9, 10), (344, 344, 33, 33), (344, 344, 36, 36), (344, 344, 64, 64), (358, 358, 0, 100000), (360, 366, 0, 100000)] F F1606_ := fs_tr g1588_ s1608_ rfl
                have rk1610_ : rk K F1606_ := rk_fs rk1589_ s1608_ (fs_rg rfl) rfl
                have c1604_s := c1604_.1 (by omega)
                clear c1604_
                refine gr_v hm_184 rfl rfl ?_
                have e1611_ : F1606_ 344 5 = F1585_ 344 5 := (s1608_ 344 5 rfl).trans (rfl)
                exact ⟨F1606_, rfl, g1607_, g1609_, (⟨by omega, by omega⟩)⟩
              refine fl_iconst hm_59 rfl ?_
              refine fl_goto hm_59 rfl ?_
              refine gr_i hm_59 rfl rfl (ga_nb (by omega)) ?_
              clear h1592_ h1593_ f1590_ l1591_
              refine fl_if_ne hm_184 rfl ⟨by omega, by omega⟩ (fun _ => ?_) (fun h => absurd (by omega) h)
              refine gr_v hm_184 rfl rfl ?_
              have b1612_ : 0 ≤ F1585_ 344 5 ∧ F1585_ 344 5 ≤ 600 := gi_g g1586_ rfl
              exact ⟨F1585_, rfl, g1586_, g1588_, (⟨by omega, by omega⟩)⟩
            refine fl_iconst hm_59 rfl ?_
            refine fl_goto hm_59 rfl ?_
            refine gr_i hm_59 rfl rfl (ga_nb (by omega)) ?_
            clear h1481_ h1482_ f1479_ l1480_
            refine fl_if_ne hm_184 rfl ⟨by omega, by omega⟩ (fun _ => ?_) (fun h => absurd (by omega) h)
            refine ga_aload_n (v := .ref 344) hm_184 rfl rfl rfl ?_
            refine fl_bipush hm_184 rfl rfl ?_
            have b1613_ : 0 ≤ F1474_ 344 5 ∧ F1474_ 344 5 ≤ 600 := gi_g g1475_ rfl
            refine gVv (nY := 2) (F := 2) (L := 41) (As := [.int (Int32.ofInt 40)]) (b := 344) (rest := []) hm_184 rfl hm_51 rfl rfl (fl_ob sc_344) rfl rfl rfl rfl rfl (by omega) (by omega) (mc_51s hG F1474_ X g1475_ (K) (40) (0) hgK rk1478_ hkt (⟨by omega, by omega⟩) (by omega) (by omega)) (fun _ _ h => False.elim h) ?_
            rintro A1_ ⟨F1617_, hA_, g1618_, s1619_, c1615_, c1616_⟩
            subst hA_
            have g1620_ : fs [(344, 344, 5, 5), (344, 344, 9, 10), (344, 344, 33, 33), (344, 344, 36, 36), (344, 344, 64, 64), (358, 358, 0, 100000), (360, 366, 0, 100000)] F F1617_ := fs_tr g1477_ s1619_ rfl
            have rk1621_ : rk K F1617_ := rk_fs rk1478_ s1619_ (fs_rg rfl) rfl
            refine ga_aload_n (v := .ref 344) hm_184 rfl rfl rfl ?_
            refine fl_bipush hm_184 rfl rfl ?_
            have b1622_ : 0 ≤ F1617_ 344 5 ∧ F1617_ 344 5 ≤ 600 := gi_g g1618_ rfl
            refine gVv (nY := 2) (F := 2) (L := 44) (As := [.int (Int32.ofInt 16)]) (b := 344) (rest := []) hm_184 rfl hm_55 rfl rfl (fl_ob sc_344) rfl rfl rfl rfl rfl (by omega) (by omega) (mc_55s hG F1617_ X g1618_ (K) (16) ([58, 105, 110, 105, 116]) hgK rk1621_ hkt (⟨by omega, by omega⟩) (⟨by omega, by omega⟩) (by decide) (kw_16 rk1621_)) (fun _ _ h => False.elim h) ?_
            have b1624_ : 0 ≤ F1617_ 344 9 ∧ F1617_ 344 9 ≤ 5 := gi_g g1618_ rfl
            rintro A1_ ⟨F1627_, hA_, g1628_, s1629_, c1625_, c1626_⟩
            subst hA_
            have g1630_ : fs [(344, 344, 5, 5), (344, 344, 9, 10), (344, 344, 33, 33), (344, 344, 36, 36), (344, 344, 64, 64), (358, 358, 0, 100000), (360, 366, 0, 100000)] F F1627_ := fs_tr g1620_ s1629_ rfl
            have rk1631_ : rk K F1627_ := rk_fs rk1621_ s1629_ (fs_rg rfl) rfl
            refine ga_aload_n (v := .ref 344) hm_184 rfl rfl rfl ?_
            have b1632_ : 0 ≤ F1627_ 344 5 ∧ F1627_ 344 5 ≤ 600 := gi_g g1628_ rfl
            refine gVv (nY := 2) (F := 5) (L := 117) (As := []) (b := 344) (rest := []) hm_184 rfl hm_178 rfl rfl (fl_ob sc_344) rfl rfl rfl rfl rfl (by omega) (by omega) (mc_178 hG F1627_ X g1628_ (K) (l2_) (tl2_) (pl) (ps) hgK rk1631_ hkt (⟨by omega, by omega⟩) ((trm_fs (trm_fs (trm_fs ht2_.1 s1476_ (by first | exact fs_rg rfl | exact fun r j hj => (fs_n (by omega) (fs_n (by omega) rfl)))) s1619_ (by first | exact fs_rg rfl | exact fun r j hj => (fs_n (by omega) (fs_n (by omega) rfl)))) s1629_ (by first | exact fs_rg rfl | exact fun r j hj => (fs_n (by omega) (fs_n (by omega) rfl))))) (ht2_.2) ((rpn_fs (rpn_fs (rpn_fs (rpn_fs (rpn_fs (rpn_fs (rpn_fs (rpn_fs (rpn_fs (rpn_fs (rpn_fs (rpn_fs (rpn_fs (rpn_fs (rpn_fs (rpn_fs (rpn_fs (rpn_fs (rpn_fs (rpn_fs hpl s8_ (fun _ => (by first | exact fs_c rfl | exact (fs_n (by omega) (fs_n (by omega) rfl)))) (by first | exact fs_c rfl | exact (fs_n (by omega) (fs_n (by omega) rfl)))) s18_ (fun _ => (by first | exact fs_c rfl | exact (fs_n (by omega) (fs_n (by omega) rfl)))) (by first | exact fs_c rfl | exact (fs_n (by omega) (fs_n (by omega) rfl)))) s28_ (fun _ => (by first | exact fs_c rfl | exact (fs_n (by omega) (fs_n (by omega) rfl)))) (by first | exact fs_c rfl | exact (fs_n (by omega) (fs_n (by omega) rfl)))) s38_ (fun _ => (by first | exact fs_c rfl | exact (fs_n (by omega) (fs_n (by omega) rfl)))) (by first | exact fs_c rfl | exact (fs_n (by omega) (fs_n (by omega) rfl)))) s50_ (fun _ => (by first | exact fs_c rfl | exact (fs_n (by omega) rfl))) (by first | exact fs_c rfl | exact (fs_n (by omega) rfl))) s59_ (fun _ => (by first | exact fs_c rfl | exact (fs_n (by omega) rfl))) (by first | exact fs_c rfl | exact (fs_n (by omega) rfl))) s69_ (fun _ => (by first | exact fs_c rfl | exact (fs_n (by omega) (fs_n (by omega) rfl)))) (by first | exact fs_c rfl | exact (fs_n (by omega) (fs_n (by omega) rfl)))) s79_ (fun _ => (by first | exact fs_c rfl | exact (fs_n (by omega) (fs_n (by omega) rfl)))) (by first | exact fs_c rfl | exact (fs_n (by omega) (fs_n (by omega) rfl)))) s89_ (fun _ => (by first | exact fs_c rfl | exact (fs_n (by omega) (fs_n (by omega) rfl)))) (by first | exact fs_c rfl | exact (fs_n (by omega) (fs_n (by omega) rfl)))) s101_ (fun _ => (by first | exact fs_c rfl | exact (fs_n (by omega) rfl))) (by first | exact fs_c rfl | exact (fs_n (by omega) rfl))) s1079_ (fun _ => (by first | exact fs_c rfl | exact (fs_n (by omega) rfl))) (by first | exact fs_c rfl | exact (fs_n (by omega) rfl))) s1088_ (fun _ => (by first | exact fs_c rfl | exact (fs_n (by omega) rfl))) (by first | exact fs_c rfl | exact (fs_n (by omega) rfl))) s1098_ (fun _ => (by first | exact fs_c rfl | exact (fs_n (by omega) (fs_n (by omega) rfl)))) (by first | exact fs_c rfl | exact (fs_n (by omega) (fs_n (by omega) rfl)))) s1108_ (fun _ => (by first | exact fs_c rfl | exact (fs_n (by omega) (fs_n (by omega) rfl)))) (by first | exact fs_c rfl | exact (fs_n (by omega) (fs_n (by omega) rfl)))) s1118_ (fun _ => (by first | exact fs_c rfl | exact (fs_n (by omega) (fs_n (by omega) rfl)))) (by first | exact fs_c rfl | exact (fs_n (by omega) (fs_n (by omega) rfl)))) hf_F1 (fun _ => (by first | exact fs_c rfl | exact (fs_n (by omega) (fs_n (by omega) (fs_n (by omega) (fs_n (by omega) rfl)))))) (by first | exact fs_c rfl | exact (fs_n (by omega) (fs_n (by omega) (fs_n (by omega) (fs_n (by omega) rfl)))))) s1410_ (fun _ => (by first | exact fs_c rfl | exact (fs_n (by omega) (fs_n (by omega) (fs_n (by omega) (fs_n (by omega) rfl)))))) (by first | exact fs_c rfl | exact (fs_n (by omega) (fs_n (by omega) (fs_n (by omega) (fs_n (by omega) rfl)))))) s1476_ (fun _ => (by first | exact fs_c rfl | exact (fs_n (by omega) (fs_n (by omega) rfl)))) (by first | exact fs_c rfl | exact (fs_n (by omega) (fs_n (by omega) rfl)))) s1619_ (fun _ => (by first | exact fs_c rfl | exact (fs_n (by omega) (fs_n (by omega) rfl)))) (by first | exact fs_c rfl | exact (fs_n (by omega) (fs_n (by omega) rfl)))) s1629_ (fun _ => (by first | exact fs_c rfl | exact (fs_n (by omega) (fs_n (by omega) rfl)))) (by first | exact fs_c rfl | exact (fs_n (by omega) (fs_n (by omega) rfl))))) (⟨(rprd_fs (rprd_fs (rprd_fs (rprd_fs (rprd_fs (rprd_fs (rprd_fs (rprd_fs (rprd_fs (rprd_fs (rprd_fs (rprd_fs (rprd_fs (rprd_fs (rprd_fs (rprd_fs (rprd_fs (rprd_fs (rprd_fs (rprd_fs hps.1 s8_ (by first | exact fs_rg rfl | exact fun r j hj => (fs_n (by omega) (fs_n (by omega) rfl)))) s18_ (by first | exact fs_rg rfl | exact fun r j hj => (fs_n (by omega) (fs_n (by omega) rfl)))) s28_ (by first | exact fs_rg rfl | exact fun r j hj => (fs_n (by omega) (fs_n (by omega) rfl)))) s38_ (by first | exact fs_rg rfl | exact fun r j hj => (fs_n (by omega) (fs_n (by omega) rfl)))) s50_ (by first | exact fs_rg rfl | exact fun r j hj => (fs_n (by omega) rfl))) s59_ (by first | exact fs_rg rfl | exact fun r j hj => (fs_n (by omega) rfl))) s69_ (by first | exact fs_rg rfl | exact fun r j hj => (fs_n (by omega) (fs_n (by omega) rfl)))) s79_ (by first | exact fs_rg rfl | exact fun r j hj => (fs_n (by omega) (fs_n (by omega) rfl)))) s89_ (by first | exact fs_rg rfl | exact fun r j hj => (fs_n (by omega) (fs_n (by omega) rfl)))) s101_ (by first | exact fs_rg rfl | exact fun r j hj => (fs_n (by omega) rfl))) s1079_ (by first | exact fs_rg rfl | exact fun r j hj => (fs_n (by omega) rfl))) s1088_ (by first | exact fs_rg rfl | exact fun r j hj => (fs_n (by omega) rfl))) s1098_ (by first | exact fs_rg rfl | exact fun r j hj => (fs_n (by omega) (fs_n (by omega) rfl)))) s1108_ (by first | exact fs_rg rfl | exact fun r j hj => (fs_n (by omega) (fs_n (by omega) rfl)))) s1118_ (by first | exact fs_rg rfl | exact fun r j hj => (fs_n (by omega) (fs_n (by omega) rfl)))) hf_F1 (by first | exact fs_rg rfl | exact fun r j hj => (fs_n (by omega) (fs_n (by omega) (fs_n (by omega) (fs_n (by omega) rfl)))))) s1410_ (by first | exact fs_rg rfl | exact fun r j hj => (fs_n (by omega) (fs_n (by omega) (fs_n (by omega) (fs_n (by omega) rfl)))))) s1476_ (by first | exact fs_rg rfl | exact fun r j hj => (fs_n (by omega) (fs_n (by omega) rfl)))) s1619_ (by first | exact fs_rg rfl | exact fun r j hj => (fs_n (by omega) (fs_n (by omega) rfl)))) s1629_ (by first | exact fs_rg rfl | exact fun r j hj => (fs_n (by omega) (fs_n (by omega) rfl)))), hps.2⟩)) (fun _ _ h => False.elim h) ?_
            have b1634_ : 0 ≤ F1627_ 344 9 ∧ F1627_ 344 9 ≤ 5 := gi_g g1628_ rfl
            rintro A1_ ⟨F1637_, hA_, g1638_, s1639_, c1635_, c1636_⟩
            subst hA_
            have g1640_ : fs [(344, 344, 5, 5), (344, 344, 9, 10), (344, 344, 33, 33), (344, 344, 36, 36), (344, 344, 64, 64), (358, 358, 0, 100000), (360, 366, 0, 100000)] F F1637_ := fs_tr g1630_ s1639_ rfl
            have rk1641_ : rk K F1637_ := rk_fs rk1631_ s1639_ (fs_rg rfl) rfl
            refine ga_aload_n (v := .ref 344) hm_184 rfl rfl rfl ?_
            refine fl_bipush hm_184 rfl rfl ?_
            have b1642_ : 0 ≤ F1637_ 344 5 ∧ F1637_ 344 5 ≤ 600 := gi_g g1638_ rfl
            refine gVv (nY := 2) (F := 2) (L := 41) (As := [.int (Int32.ofInt 41)]) (b := 344) (rest := []) hm_184 rfl hm_51 rfl rfl (fl_ob sc_344) rfl rfl rfl rfl rfl (by omega) (by omega) (mc_51s hG F1637_ X g1638_ (K) (41) (1) hgK rk1641_ hkt (⟨by omega, by omega⟩) (by omega) (by omega)) (fun _ _ h => False.elim h) ?_
            have b1644_ : 0 ≤ F1637_ 344 9 ∧ F1637_ 344 9 ≤ 5 := gi_g g1638_ rfl
            rintro A1_ ⟨F1647_, hA_, g1648_, s1649_, c1645_, c1646_⟩
            subst hA_
            have g1650_ : fs [(344, 344, 5, 5), (344, 344, 9, 10), (344, 344, 33, 33), (344, 344, 36, 36), (344, 344, 64, 64), (358, 358, 0, 100000), (360, 366, 0, 100000)] F F1647_ := fs_tr g1640_ s1649_ rfl
            have rk1651_ : rk K F1647_ := rk_fs rk1641_ s1649_ (fs_rg rfl) rfl
            refine ga_aload_n (v := .ref 344) hm_184 rfl rfl rfl ?_
            refine fl_bipush hm_184 rfl rfl ?_
            have b1652_ : 0 ≤ F1647_ 344 5 ∧ F1647_ 344 5 ≤ 600 := gi_g g1648_ rfl
            refine gVv (nY := 2) (F := 2) (L := 41) (As := [.int (Int32.ofInt 40)]) (b := 344) (rest := []) hm_184 rfl hm_51 rfl rfl (fl_ob sc_344) rfl rfl rfl rfl rfl (by omega) (by omega) (mc_51s hG F1647_ X g1648_ (K) (40) (0) hgK rk1651_ hkt (⟨by omega, by omega⟩) (by omega) (by omega)) (fun _ _ h => False.elim h) ?_
            have b1654_ : 0 ≤ F1647_ 344 9 ∧ F1647_ 344 9 ≤ 5 := gi_g g1648_ rfl
            rintro A1_ ⟨F1657_, hA_, g1658_, s1659_, c1655_, c1656_⟩
            subst hA_
            have g1660_ : fs [(344, 344, 5, 5), (344, 344, 9, 10), (344, 344, 33, 33), (344, 344, 36, 36), (344, 344, 64, 64), (358, 358, 0, 100000), (360, 366, 0, 100000)] F F1657_ := fs_tr g1650_ s1659_ rfl
            have rk1661_ : rk K F1657_ := rk_fs rk1651_ s1659_ (fs_rg rfl) rfl
            refine ga_aload_n (v := .ref 344) hm_184 rfl rfl rfl ?_
            refine fl_bipush hm_184 rfl rfl ?_
            have b1662_ : 0 ≤ F1657_ 344 5 ∧ F1657_ 344 5 ≤ 600 := gi_g g1658_ rfl
            refine gVv (nY := 2) (F := 2) (L := 44) (As := [.int (Int32.ofInt 17)]) (b := 344) (rest := []) hm_184 rfl hm_55 rfl rfl (fl_ob sc_344) rfl rfl rfl rfl rfl (by omega) (by omega) (mc_55s hG F1657_ X g1658_ (K) (17) ([58, 103, 111, 97, 108]) hgK rk1661_ hkt (⟨by omega, by omega⟩) (⟨by omega, by omega⟩) (by decide) (kw_17 rk1661_)) (fun _ _ h => False.elim h) ?_
            have b1664_ : 0 ≤ F1657_ 344 9 ∧ F1657_ 344 9 ≤ 5 := gi_g g1658_ rfl
            rintro A1_ ⟨F1667_, hA_, g1668_, s1669_, c1665_, c1666_⟩
            subst hA_
            have g1670_ : fs [(344, 344, 5, 5), (344, 344, 9, 10), (344, 344, 33, 33), (344, 344, 36, 36), (344, 344, 64, 64), (358, 358, 0, 100000), (360, 366, 0, 100000)] F F1667_ := fs_tr g1660_ s1669_ rfl
            have rk1671_ : rk K F1667_ := rk_fs rk1661_ s1669_ (fs_rg rfl) rfl
            refine ga_aload_n (v := .ref 344) hm_184 rfl rfl rfl ?_
            refine ga_getr (b := 358) hm_184 rfl sc_344 rfl ?_
            refine fl_iconst hm_184 rfl ?_
            refine fl_iconst hm_184 rfl ?_
            refine fl_iast (z := 5) (v := 0) hm_184 rfl sc_358 (by omega) (by omega) (by omega) ?_
            refine ga_aload_n (v := .ref 344) hm_184 rfl rfl rfl ?_
            refine fl_iconst hm_184 rfl ?_
            refine fl_bipush hm_184 rfl rfl ?_
            obtain ⟨F1672_, q1673_⟩ : ∃ Fq_, Fq_ = (fl_u F1667_ 358 (5 : Int).toNat 0) := ⟨_, rfl⟩
            rw [← q1673_]
            have g1674_ : gi F1672_ := by rw [q1673_]; exact gi_u (g1668_) rfl (by omega) (by omega)
            have g1675_ : fs [(344, 344, 5, 5), (344, 344, 9, 10), (344, 344, 33, 33), (344, 344, 36, 36), (344, 344, 64, 64), (358, 358, 0, 100000), (360, 366, 0, 100000)] F F1672_ := by rw [q1673_]; exact fs_u (g1670_) rfl
            have rk1676_ : rk K F1672_ := by rw [q1673_]; exact rk_u (rk1671_) (by first | decide | exact nc_ rfl | omega) (by first | decide | exact nc_ rfl | omega)
            have e1677_ : F1672_ 344 5 = F1667_ 344 5 := by rw [q1673_]; exact fl_u_ne (by first | exact nc_ rfl | decide | omega)
            have b1678_ : 0 ≤ F1667_ 344 5 ∧ F1667_ 344 5 ≤ 600 := gi_g g1668_ rfl
            refine gVv (nY := 4) (F := 6) (L := 142) (As := [.int (Int32.ofInt 5), .int (Int32.ofInt 40)]) (b := 344) (rest := []) hm_184 rfl hm_175 rfl rfl (fl_ob sc_344) rfl rfl rfl rfl rfl (by omega) (by omega) (mc_175s hG F1672_ X g1674_ (K) (5) (40) (2) (l2_) (tl2_) (pl) (ps) hgK rk1676_ hkt (⟨by omega, by omega⟩) ((by rw [q1673_]; exact (trm_u (trm_fs (trm_fs (trm_fs (trm_fs (trm_fs (trm_fs (trm_fs ht2_.1 s1476_ (by first | exact fs_rg rfl | exact fun r j hj => (fs_n (by omega) (fs_n (by omega) rfl)))) s1619_ (by first | exact fs_rg rfl | exact fun r j hj => (fs_n (by omega) (fs_n (by omega) rfl)))) s1629_ (by first | exact fs_rg rfl | exact fun r j hj => (fs_n (by omega) (fs_n (by omega) rfl)))) s1639_ (by first | exact fs_rg rfl | exact fun r j hj => (fs_n (by omega) (fs_n (by omega) (fs_n (by omega) (fs_n (by omega) rfl)))))) s1649_ (by first | exact fs_rg rfl | exact fun r j hj => (fs_n (by omega) (fs_n (by omega) rfl)))) s1659_ (by first | exact fs_rg rfl | exact fun r j hj => (fs_n (by omega) (fs_n (by omega) rfl)))) s1669_ (by first | exact fs_rg rfl | exact fun r j hj => (fs_n (by omega) (fs_n (by omega) rfl)))) (by first | decide | exact nc_ rfl | omega)))) (ht2_.2) (⟨by omega, by omega⟩) ((by rw [q1673_]; exact (rpn_u (rpn_fs (rpn_fs (rpn_fs (rpn_fs (rpn_fs (rpn_fs (rpn_fs (rpn_fs (rpn_fs (rpn_fs (rpn_fs (rpn_fs (rpn_fs (rpn_fs (rpn_fs (rpn_fs (rpn_fs (rpn_fs (rpn_fs (rpn_fs (rpn_fs (rpn_fs (rpn_fs (rpn_fs hpl s8_ (fun _ => (by first | exact fs_c rfl | exact (fs_n (by omega) (fs_n (by omega) rfl)))) (by first | exact fs_c rfl | exact (fs_n (by omega) (fs_n (by omega) rfl)))) s18_ (fun _ => (by first | exact fs_c rfl | exact (fs_n (by omega) (fs_n (by omega) rfl)))) (by first | exact fs_c rfl | exact (fs_n (by omega) (fs_n (by omega) rfl)))) s28_ (fun _ => (by first | exact fs_c rfl | exact (fs_n (by omega) (fs_n (by omega) rfl)))) (by first | exact fs_c rfl | exact (fs_n (by omega) (fs_n (by omega) rfl)))) s38_ (fun _ => (by first | exact fs_c rfl | exact (fs_n (by omega) (fs_n (by omega) rfl)))) (by first | exact fs_c rfl | exact (fs_n (by omega) (fs_n (by omega) rfl)))) s50_ (fun _ => (by first | exact fs_c rfl | exact (fs_n (by omega) rfl))) (by first | exact fs_c rfl | exact (fs_n (by omega) rfl))) s59_ (fun _ => (by first | exact fs_c rfl | exact (fs_n (by omega) rfl))) (by first | exact fs_c rfl | exact (fs_n (by omega) rfl))) s69_ (fun _ => (by first | exact fs_c rfl | exact (fs_n (by omega) (fs_n (by omega) rfl)))) (by first | exact fs_c rfl | exact (fs_n (by omega) (fs_n (by omega) rfl)))) s79_ (fun _ => (by first | exact fs_c rfl | exact (fs_n (by omega) (fs_n (by omega) rfl)))) (by first | exact fs_c rfl | exact (fs_n (by omega) (fs_n (by omega) rfl)))) s89_ (fun _ => (by first | exact fs_c rfl | exact (fs_n (by omega) (fs_n (by omega) rfl)))) (by first | exact fs_c rfl | exact (fs_n (by omega) (fs_n (by omega) rfl)))) s101_ (fun _ => (by first | exact fs_c rfl | exact (fs_n (by omega) rfl))) (by first | exact fs_c rfl | exact (fs_n (by omega) rfl))) s1079_ (fun _ => (by first | exact fs_c rfl | exact (fs_n (by omega) rfl))) (by first | exact fs_c rfl | exact (fs_n (by omega) rfl))) s1088_ (fun _ => (by first | exact fs_c rfl | exact (fs_n (by omega) rfl))) (by first | exact fs_c rfl | exact (fs_n (by omega) rfl))) s1098_ (fun _ => (by first | exact fs_c rfl | exact (fs_n (by omega) (fs_n (by omega) rfl)))) (by first | exact fs_c rfl | exact (fs_n (by omega) (fs_n (by omega) rfl)))) s1108_ (fun _ => (by first | exact fs_c rfl | exact (fs_n (by omega) (fs_n (by omega) rfl)))) (by first | exact fs_c rfl | exact (fs_n (by omega) (fs_n (by omega) rfl)))) s1118_ (fun _ => (by first | exact fs_c rfl | exact (fs_n (by omega) (fs_n (by omega) rfl)))) (by first | exact fs_c rfl | exact (fs_n (by omega) (fs_n (by omega) rfl)))) hf_F1 (fun _ => (by first | exact fs_c rfl | exact (fs_n (by omega) (fs_n (by omega) (fs_n (by omega) (fs_n (by omega) rfl)))))) (by first | exact fs_c rfl | exact (fs_n (by omega) (fs_n (by omega) (fs_n (by omega) (fs_n (by omega) rfl)))))) s1410_ (fun _ => (by first | exact fs_c rfl | exact (fs_n (by omega) (fs_n (by omega) (fs_n (by omega) (fs_n (by omega) rfl)))))) (by first | exact fs_c rfl | exact (fs_n (by omega) (fs_n (by omega) (fs_n (by omega) (fs_n (by omega) rfl)))))) s1476_ (fun _ => (by first | exact fs_c rfl | exact (fs_n (by omega) (fs_n (by omega) rfl)))) (by first | exact fs_c rfl | exact (fs_n (by omega) (fs_n (by omega) rfl)))) s1619_ (fun _ => (by first | exact fs_c rfl | exact (fs_n (by omega) (fs_n (by omega) rfl)))) (by first | exact fs_c rfl | exact (fs_n (by omega) (fs_n (by omega) rfl)))) s1629_ (fun _ => (by first | exact fs_c rfl | exact (fs_n (by omega) (fs_n (by omega) rfl)))) (by first | exact fs_c rfl | exact (fs_n (by omega) (fs_n (by omega) rfl)))) s1639_ (fun _ => (by first | exact fs_c rfl | exact (fs_n (by omega) (fs_n (by omega) (fs_n (by omega) (fs_n (by omega) rfl)))))) (by first | exact fs_c rfl | exact (fs_n (by omega) (fs_n (by omega) (fs_n (by omega) (fs_n (by omega) rfl)))))) s1649_ (fun _ => (by first | exact fs_c rfl | exact (fs_n (by omega) (fs_n (by omega) rfl)))) (by first | exact fs_c rfl | exact (fs_n (by omega) (fs_n (by omega) rfl)))) s1659_ (fun _ => (by first | exact fs_c rfl | exact (fs_n (by omega) (fs_n (by omega) rfl)))) (by first | exact fs_c rfl | exact (fs_n (by omega) (fs_n (by omega) rfl)))) s1669_ (fun _ => (by first | exact fs_c rfl | exact (fs_n (by omega) (fs_n (by omega) rfl)))) (by first | exact fs_c rfl | exact (fs_n (by omega) (fs_n (by omega) rfl)))) (by first | decide | exact nc_ rfl | omega) (by first | decide | exact nc_ rfl | omega)))) (⟨(by rw [q1673_]; exact (rprd_u (rprd_fs (rprd_fs (rprd_fs (rprd_fs (rprd_fs (rprd_fs (rprd_fs (rprd_fs (rprd_fs (rprd_fs (rprd_fs (rprd_fs (rprd_fs (rprd_fs (rprd_fs (rprd_fs (rprd_fs (rprd_fs (rprd_fs (rprd_fs (rprd_fs (rprd_fs (rprd_fs (rprd_fs hps.1 s8_ (by first | exact fs_rg rfl | exact fun r j hj => (fs_n (by omega) (fs_n (by omega) rfl)))) s18_ (by first | exact fs_rg rfl | exact fun r j hj => (fs_n (by omega) (fs_n (by omega) rfl)))) s28_ (by first | exact fs_rg rfl | exact fun r j hj => (fs_n (by omega) (fs_n (by omega) rfl)))) s38_ (by first | exact fs_rg rfl | exact fun r j hj => (fs_n (by omega) (fs_n (by omega) rfl)))) s50_ (by first | exact fs_rg rfl | exact fun r j hj => (fs_n (by omega) rfl))) s59_ (by first | exact fs_rg rfl | exact fun r j hj => (fs_n (by omega) rfl))) s69_ (by first | exact fs_rg rfl | exact fun r j hj => (fs_n (by omega) (fs_n (by omega) rfl)))) s79_ (by first | exact fs_rg rfl | exact fun r j hj => (fs_n (by omega) (fs_n (by omega) rfl)))) s89_ (by first | exact fs_rg rfl | exact fun r j hj => (fs_n (by omega) (fs_n (by omega) rfl)))) s101_ (by first | exact fs_rg rfl | exact fun r j hj => (fs_n (by omega) rfl))) s1079_ (by first | exact fs_rg rfl | exact fun r j hj => (fs_n (by omega) rfl))) s1088_ (by first | exact fs_rg rfl | exact fun r j hj => (fs_n (by omega) rfl))) s1098_ (by first | exact fs_rg rfl | exact fun r j hj => (fs_n (by omega) (fs_n (by omega) rfl)))) s1108_ (by first | exact fs_rg rfl | exact fun r j hj => (fs_n (by omega) (fs_n (by omega) rfl)))) s1118_ (by first | exact fs_rg rfl | exact fun r j hj => (fs_n (by omega) (fs_n (by omega) rfl)))) hf_F1 (by first | exact fs_rg rfl | exact fun r j hj => (fs_n (by omega) (fs_n (by omega) (fs_n (by omega) (fs_n (by omega) rfl)))))) s1410_ (by first | exact fs_rg rfl | exact fun r j hj => (fs_n (by omega) (fs_n (by omega) (fs_n (by omega) (fs_n (by omega) rfl)))))) s1476_ (by first | exact fs_rg rfl | exact fun r j hj => (fs_n (by omega) (fs_n (by omega) rfl)))) s1619_ (by first | exact fs_rg rfl | exact fun r j hj => (fs_n (by omega) (fs_n (by omega) rfl)))) s1629_ (by first | exact fs_rg rfl | exact fun r j hj => (fs_n (by omega) (fs_n (by omega) rfl)))) s1639_ (by first | exact fs_rg rfl | exact fun r j hj => (fs_n (by omega) (fs_n (by omega) (fs_n (by omega) (fs_n (by omega) rfl)))))) s1649_ (by first | exact fs_rg rfl | exact fun r j hj => (fs_n (by omega) (fs_n (by omega) rfl)))) s1659_ (by first | exact fs_rg rfl | exact fun r j hj => (fs_n (by omega) (fs_n (by omega) rfl)))) s1669_ (by first | exact fs_rg rfl | exact fun r j hj => (fs_n (by omega) (fs_n (by omega) rfl)))) (by first | decide | exact nc_ rfl | omega))), hps.2⟩) (⟨by omega, by omega⟩) (Or.inr (by omega)) (by rw [q1673_]; exact fl_u_eq)) (fun _ _ h => False.elim h) ?_
            have e1680_ : F1672_ 344 9 = F1667_ 344 9 := by rw [q1673_]; exact fl_u_ne (by first | exact nc_ rfl | decide | omega)
            have b1681_ : 0 ≤ F1667_ 344 9 ∧ F1667_ 344 9 ≤ 5 := gi_g g1668_ rfl
            rintro A1_ ⟨F1684_, hA_, g1685_, s1686_, c1682_, c1683_⟩
            subst hA_
            have g1687_ : fs [(344, 344, 5, 5), (344, 344, 9, 10), (344, 344, 33, 33), (344, 344, 36, 36), (344, 344, 64, 64), (358, 358, 0, 100000), (360, 366, 0, 100000)] F F1684_ := fs_tr g1675_ s1686_ rfl
            have rk1688_ : rk K F1684_ := rk_fs rk1676_ s1686_ (fs_rg rfl) rfl
            try simp only [e1680_] at c1682_
            refine ga_aload_n (v := .ref 344) hm_184 rfl rfl rfl ?_
            refine fl_bipush hm_184 rfl rfl ?_
            have b1689_ : 0 ≤ F1684_ 344 5 ∧ F1684_ 344 5 ≤ 600 := gi_g g1685_ rfl
            refine gVv (nY := 2) (F := 2) (L := 41) (As := [.int (Int32.ofInt 41)]) (b := 344) (rest := []) hm_184 rfl hm_51 rfl rfl (fl_ob sc_344) rfl rfl rfl rfl rfl (by omega) (by omega) (mc_51s hG F1684_ X g1685_ (K) (41) (1) hgK rk1688_ hkt (⟨by omega, by omega⟩) (by omega) (by omega)) (fun _ _ h => False.elim h) ?_
            have b1691_ : 0 ≤ F1684_ 344 9 ∧ F1684_ 344 9 ≤ 5 := gi_g g1685_ rfl
            rintro A1_ ⟨F1694_, hA_, g1695_, s1696_, c1692_, c1693_⟩
            subst hA_
            have g1697_ : fs [(344, 344, 5, 5), (344, 344, 9, 10), (344, 344, 33, 33), (344, 344, 36, 36), (344, 344, 64, 64), (358, 358, 0, 100000), (360, 366, 0, 100000)] F F1694_ := fs_tr g1687_ s1696_ rfl
            have rk1698_ : rk K F1694_ := rk_fs rk1688_ s1696_ (fs_rg rfl) rfl
            refine ga_aload_n (v := .ref 344) hm_184 rfl rfl rfl ?_
            refine fl_bipush hm_184 rfl rfl ?_
            have b1699_ : 0 ≤ F1694_ 344 5 ∧ F1694_ 344 5 ≤ 600 := gi_g g1695_ rfl
            refine gVv (nY := 2) (F := 2) (L := 41) (As := [.int (Int32.ofInt 41)]) (b := 344) (rest := []) hm_184 rfl hm_51 rfl rfl (fl_ob sc_344) rfl rfl rfl rfl rfl (by omega) (by omega) (mc_51s hG F1694_ X g1695_ (K) (41) (1) hgK rk1698_ hkt (⟨by omega, by omega⟩) (by omega) (by omega)) (fun _ _ h => False.elim h) ?_
            have b1701_ : 0 ≤ F1694_ 344 9 ∧ F1694_ 344 9 ≤ 5 := gi_g g1695_ rfl
            rintro A1_ ⟨F1704_, hA_, g1705_, s1706_, c1702_, c1703_⟩
            subst hA_
            have g1707_ : fs [(344, 344, 5, 5), (344, 344, 9, 10), (344, 344, 33, 33), (344, 344, 36, 36), (344, 344, 64, 64), (358, 358, 0, 100000), (360, 366, 0, 100000)] F F1704_ := fs_tr g1697_ s1706_ rfl
            have rk1708_ : rk K F1704_ := rk_fs rk1698_ s1706_ (fs_rg rfl) rfl
            refine ga_aload_n (v := .ref 344) hm_184 rfl rfl rfl ?_
            refine gIi (nY := 1) (F := 0) (L := 0) (As := []) (b := 344) (rest := []) hm_184 rfl hm_59 rfl rfl (fl_ob sc_344) rfl rfl rfl rfl rfl (by omega) (by omega) ?_
            intro f1709_ l1710_ h1711_ h1712_
            show fl_R xi_ms 59 f1709_ l1710_ 0 [(0, .ref 344)] [] _ _
            refine ga_aload_n (v := .ref 344) hm_59 rfl rfl rfl ?_
            have b1713_ : 0 ≤ F1704_ 344 9 ∧ F1704_ 344 9 ≤ 5 := gi_g g1705_ rfl
            refine ga_geti (z := F1704_ 344 9) hm_59 rfl sc_344 rfl (rfl) ?_
            refine fl_if_le (a := F1704_ 344 9) hm_59 rfl ⟨by omega, by omega⟩ (fun h1714_ => ?_) (fun h1715_ => ?_)
            ·
              refine fl_iconst hm_59 rfl ?_
              refine gr_i hm_59 rfl rfl (ga_nb (by omega)) ?_
              clear h1711_ h1712_ f1709_ l1710_
              refine fl_if_ne hm_184 rfl ⟨by omega, by omega⟩ (fun h => absurd h (by omega)) (fun _ => ?_)
              refine ga_aload_n (v := .ref 344) hm_184 rfl rfl rfl ?_
              have b1716_ : 0 ≤ F1704_ 344 5 ∧ F1704_ 344 5 ≤ 600 := gi_g g1705_ rfl
              refine ga_geti (z := F1704_ 344 5) hm_184 rfl sc_344 rfl (rfl) ?_
              refine ga_aload_n (v := .ref 344) hm_184 rfl rfl rfl ?_
              have e1717_ : F1704_ 344 4 = K 1 6 - 1 := rk1708_.2.1
              refine ga_geti (z := K 1 6 - 1) hm_184 rfl sc_344 rfl (e1717_) ?_
              refine fl_icmp_ge (a := F1704_ 344 5) (b := K 1 6 - 1) hm_184 rfl ⟨by omega, by omega⟩ ⟨by omega, by omega⟩ (fun h1718_ => ?_) (fun h1719_ => ?_)
              ·
                refine gr_v hm_184 rfl rfl ?_
                exact ⟨F1704_, rfl, g1705_, g1707_, (⟨by omega, by omega⟩)⟩
              refine ga_aload_n (v := .ref 344) hm_184 rfl rfl rfl ?_
              refine fl_iconst hm_184 rfl ?_
              refine gVv (nY := 2) (F := 0) (L := 0) (As := [.int (Int32.ofInt 1)]) (b := 344) (rest := []) hm_184 rfl hm_54 rfl rfl (fl_ob sc_344) rfl rfl rfl rfl rfl (by omega) (by omega) (mc_54 hG F1704_ X g1705_ (K) (1) hgK rk1708_ hkt (⟨by omega, by omega⟩) (⟨by omega, by omega⟩)) (fun _ _ h => False.elim h) ?_
              have b1721_ : 0 ≤ F1704_ 344 10 ∧ F1704_ 344 10 ≤ 600 := gi_g g1705_ rfl
              rintro A1_ ⟨F1725_, hA_, g1726_, s1727_, c1722_, c1723_, c1724_⟩
              subst hA_
              have g1728_ : fs [(344, 344, 5, 5), (344, 344, 9, 10), (344, 344, 33, 33), (344, 344, 36, 36), (344, 344, 64, 64), (358, 358, 0, 100000), (360, 366, 0, 100000)] F F1725_ := fs_tr g1707_ s1727_ rfl
              have rk1729_ : rk K F1725_ := rk_fs rk1708_ s1727_ (fs_rg rfl) rfl
              have c1723_s := c1723_.1 (by omega)
              clear c1723_
              refine gr_v hm_184 rfl rfl ?_
              have e1730_ : F1725_ 344 5 = F1704_ 344 5 := (s1727_ 344 5 rfl).trans (rfl)
              exact ⟨F1725_, rfl, g1726_, g1728_, (⟨by omega, by omega⟩)⟩
            refine fl_iconst hm_59 rfl ?_
            refine fl_goto hm_59 rfl ?_
            refine gr_i hm_59 rfl rfl (ga_nb (by omega)) ?_
            clear h1711_ h1712_ f1709_ l1710_
            refine fl_if_ne hm_184 rfl ⟨by omega, by omega⟩ (fun _ => ?_) (fun h => absurd (by omega) h)
            refine gr_v hm_184 rfl rfl ?_
            have b1731_ : 0 ≤ F1704_ 344 5 ∧ F1704_ 344 5 ≤ 600 := gi_g g1705_ rfl
            exact ⟨F1704_, rfl, g1705_, g1707_, (⟨by omega, by omega⟩)⟩
          exfalso; omega
        exfalso; omega
      have b1732_ : 0 ≤ F1116_ 344 5 ∧ F1116_ 344 5 ≤ 600 := gi_g g1117_ rfl
      have b1733_ : 0 ≤ K 1 6 ∧ K 1 6 ≤ 601 := gi_g hgK rfl
      have e1734_ : F6_ 5 2 = F 5 2 := (s8_ 5 2 rfl).trans (rfl)
      have e1735_ : F16_ 5 2 = F 5 2 := (s18_ 5 2 rfl).trans (e1734_)
      have e1736_ : F26_ 5 2 = F 5 2 := (s28_ 5 2 rfl).trans (e1735_)
      have e1737_ : F36_ 5 2 = F 5 2 := (s38_ 5 2 rfl).trans (e1736_)
      have e1738_ : F48_ 5 2 = F 5 2 := (s50_ 5 2 rfl).trans (e1737_)
      have e1739_ : F57_ 5 2 = F 5 2 := (s59_ 5 2 rfl).trans (e1738_)
      have e1740_ : F67_ 5 2 = F 5 2 := (s69_ 5 2 rfl).trans (e1739_)
      have e1741_ : F77_ 5 2 = F 5 2 := (s79_ 5 2 rfl).trans (e1740_)
      have e1742_ : F87_ 5 2 = F 5 2 := (s89_ 5 2 rfl).trans (e1741_)
      have e1743_ : F99_ 5 2 = F 5 2 := (s101_ 5 2 rfl).trans (e1742_)
      have e1744_ : F1077_ 5 2 = F 5 2 := (s1079_ 5 2 rfl).trans (e1743_)
      have e1745_ : F1086_ 5 2 = F 5 2 := (s1088_ 5 2 rfl).trans (e1744_)
      have e1746_ : F1096_ 5 2 = F 5 2 := (s1098_ 5 2 rfl).trans (e1745_)
      have e1747_ : F1106_ 5 2 = F 5 2 := (s1108_ 5 2 rfl).trans (e1746_)
      have e1748_ : F1116_ 5 2 = F 5 2 := (s1118_ 5 2 rfl).trans (e1747_)
      have b1749_ : 0 ≤ F 5 2 ∧ F 5 2 ≤ 600 := gi_g hgi rfl
      have e1750_ : F6_ 344 33 = F 344 33 := (s8_ 344 33 rfl).trans (rfl)
      have e1751_ : F16_ 344 33 = F 344 33 := (s18_ 344 33 rfl).trans (e1750_)
      have e1752_ : F26_ 344 33 = F 344 33 := (s28_ 344 33 rfl).trans (e1751_)
      have e1753_ : F36_ 344 33 = F 344 33 := (s38_ 344 33 rfl).trans (e1752_)
      have e1754_ : F48_ 344 33 = F 344 33 := (s50_ 344 33 rfl).trans (e1753_)
      have e1755_ : F57_ 344 33 = F 344 33 := (s59_ 344 33 rfl).trans (e1754_)
      have e1756_ : F67_ 344 33 = F 344 33 := (s69_ 344 33 rfl).trans (e1755_)
      have e1757_ : F77_ 344 33 = F 344 33 := (s79_ 344 33 rfl).trans (e1756_)
      have e1758_ : F87_ 344 33 = F 344 33 := (s89_ 344 33 rfl).trans (e1757_)
      have e1759_ : F99_ 344 33 = F 344 33 := (s101_ 344 33 rfl).trans (e1758_)
      have e1760_ : F1077_ 344 33 = F 344 33 := (s1079_ 344 33 rfl).trans (e1759_)
      have e1761_ : F1086_ 344 33 = F 344 33 := (s1088_ 344 33 rfl).trans (e1760_)
      have e1762_ : F1096_ 344 33 = F 344 33 := (s1098_ 344 33 rfl).trans (e1761_)
      have e1763_ : F1106_ 344 33 = F 344 33 := (s1108_ 344 33 rfl).trans (e1762_)
      have e1764_ : F1116_ 344 33 = F 344 33 := (s1118_ 344 33 rfl).trans (e1763_)
      have b1765_ : 0 ≤ F 344 33 ∧ F 344 33 ≤ 6 := gi_g hgi rfl
      exact L1124_ _ (1) ([]) ([]) F1116_ rfl g1117_ fs_refl (by omega) (⟨by omega, by omega⟩) (⟨by omega, by omega⟩) (⟨(trm_fs (trm_fs (trm_fs (trm_fs (trm_fs (trm_fs (trm_fs (trm_fs (trm_fs (trm_fs (trm_fs (trm_fs (trm_fs (trm_fs (trm_fs (tr5_0 h33) s8_ (by first | exact fs_rg rfl | exact fun r j hj => (fs_n (by omega) (fs_n (by omega) rfl)))) s18_ (by first | exact fs_rg rfl | exact fun r j hj => (fs_n (by omega) (fs_n (by omega) rfl)))) s28_ (by first | exact fs_rg rfl | exact fun r j hj => (fs_n (by omega) (fs_n (by omega) rfl)))) s38_ (by first | exact fs_rg rfl | exact fun r j hj => (fs_n (by omega) (fs_n (by omega) rfl)))) s50_ (by first | exact fs_rg rfl | exact fun r j hj => (fs_n (by omega) rfl))) s59_ (by first | exact fs_rg rfl | exact fun r j hj => (fs_n (by omega) rfl))) s69_ (by first | exact fs_rg rfl | exact fun r j hj => (fs_n (by omega) (fs_n (by omega) rfl)))) s79_ (by first | exact fs_rg rfl | exact fun r j hj => (fs_n (by omega) (fs_n (by omega) rfl)))) s89_ (by first | exact fs_rg rfl | exact fun r j hj => (fs_n (by omega) (fs_n (by omega) rfl)))) s101_ (by first | exact fs_rg rfl | exact fun r j hj => (fs_n (by omega) rfl))) s1079_ (by first | exact fs_rg rfl | exact fun r j hj => (fs_n (by omega) rfl))) s1088_ (by first | exact fs_rg rfl | exact fun r j hj => (fs_n (by omega) rfl))) s1098_ (by first | exact fs_rg rfl | exact fun r j hj => (fs_n (by omega) (fs_n (by omega) rfl)))) s1108_ (by first | exact fs_rg rfl | exact fun r j hj => (fs_n (by omega) (fs_n (by omega) rfl)))) s1118_ (by first | exact fs_rg rfl | exact fun r j hj => (fs_n (by omega) (fs_n (by omega) rfl)))), rfl⟩)
    refine fl_iconst hm_184 rfl ?_
    refine ga_istore_n (lv2 := [(3, .int (Int32.ofInt 1)), (1, .long (Int64.ofInt z93_)), (0, .ref 344)]) hm_184 rfl (Nat.le_of_ble_eq_true rfl) rfl ?_
    refine ga_iload_n (z := 1) hm_184 rfl rfl ?_
    refine fl_if_eq hm_184 rfl ⟨by omega, by omega⟩ (fun h => absurd h (by omega)) (fun _ => ?_)
    refine ga_aload_n (v := .ref 344) hm_184 rfl rfl rfl ?_
    refine gIi (nY := 1) (F := 0) (L := 0) (As := []) (b := 344) (rest := []) hm_184 rfl hm_59 rfl rfl (fl_ob sc_344) rfl rfl rfl rfl rfl (by omega) (by omega) ?_
    intro f1766_ l1767_ h1768_ h1769_
    show fl_R xi_ms 59 f1766_ l1767_ 0 [(0, .ref 344)] [] _ _
    refine ga_aload_n (v := .ref 344) hm_59 rfl rfl rfl ?_
    refine ga_geti (z := F1116_ 344 9) hm_59 rfl sc_344 rfl (rfl) ?_
    refine fl_if_le (a := F1116_ 344 9) hm_59 rfl ⟨by omega, by omega⟩ (fun h1770_ => ?_) (fun h1771_ => ?_)
    · exfalso; omega
    refine fl_iconst hm_59 rfl ?_
    refine fl_goto hm_59 rfl ?_
    refine gr_i hm_59 rfl rfl (ga_nb (by omega)) ?_
    clear h1768_ h1769_ f1766_ l1767_
    refine fl_if_ne hm_184 rfl ⟨by omega, by omega⟩ (fun _ => ?_) (fun h => absurd (by omega) h)
    refine ga_aload_n (v := .ref 344) hm_184 rfl rfl rfl ?_
    refine fl_bipush hm_184 rfl rfl ?_
    have b1772_ : 0 ≤ F1116_ 344 5 ∧ F1116_ 344 5 ≤ 600 := gi_g g1117_ rfl
    refine gVv (nY := 2) (F := 2) (L := 41) (As := [.int (Int32.ofInt 41)]) (b := 344) (rest := []) hm_184 rfl hm_51 rfl rfl (fl_ob sc_344) rfl rfl rfl rfl rfl (by omega) (by omega) (mc_51s hG F1116_ X g1117_ (K) (41) (1) hgK rk1120_ hkt (⟨by omega, by omega⟩) (by omega) (by omega)) (fun _ _ h => False.elim h) ?_
    rintro A1_ ⟨F1776_, hA_, g1777_, s1778_, c1774_, c1775_⟩
    subst hA_
    have g1779_ : fs [(344, 344, 5, 5), (344, 344, 9, 10), (344, 344, 33, 33), (344, 344, 36, 36), (344, 344, 64, 64), (358, 358, 0, 100000), (360, 366, 0, 100000)] F F1776_ := fs_tr g1119_ s1778_ rfl
    have rk1780_ : rk K F1776_ := rk_fs rk1120_ s1778_ (fs_rg rfl) rfl
    refine ga_aload_n (v := .ref 344) hm_184 rfl rfl rfl ?_
    refine gIi (nY := 1) (F := 0) (L := 0) (As := []) (b := 344) (rest := []) hm_184 rfl hm_59 rfl rfl (fl_ob sc_344) rfl rfl rfl rfl rfl (by omega) (by omega) ?_
    intro f1781_ l1782_ h1783_ h1784_
    show fl_R xi_ms 59 f1781_ l1782_ 0 [(0, .ref 344)] [] _ _
    refine ga_aload_n (v := .ref 344) hm_59 rfl rfl rfl ?_
    have b1785_ : 0 ≤ F1776_ 344 9 ∧ F1776_ 344 9 ≤ 5 := gi_g g1777_ rfl
    refine ga_geti (z := F1776_ 344 9) hm_59 rfl sc_344 rfl (rfl) ?_
    refine fl_if_le (a := F1776_ 344 9) hm_59 rfl ⟨by omega, by omega⟩ (fun h1786_ => ?_) (fun h1787_ => ?_)
    ·
      refine fl_iconst hm_59 rfl ?_
      refine gr_i hm_59 rfl rfl (ga_nb (by omega)) ?_
      clear h1783_ h1784_ f1781_ l1782_
      refine fl_if_ne hm_184 rfl ⟨by omega, by omega⟩ (fun h => absurd h (by omega)) (fun _ => ?_)
      refine ga_aload_n (v := .ref 344) hm_184 rfl rfl rfl ?_
      refine gVv (nY := 6) (F := 1) (L := 22) (As := []) (b := 344) (rest := []) hm_184 rfl hm_171 rfl rfl (fl_ob sc_344) rfl rfl rfl rfl rfl (by omega) (by omega) (mc_171 hG F1776_ X g1777_) (fun _ _ h => False.elim h) ?_
      rintro A1_ ⟨F1789_, hA_, g1790_, s1791_⟩
      subst hA_
      have g1792_ : fs [(344, 344, 5, 5), (344, 344, 9, 10), (344, 344, 33, 33), (344, 344, 36, 36), (344, 344, 64, 64), (358, 358, 0, 100000), (360, 366, 0, 100000)] F F1789_ := fs_tr g1779_ s1791_ rfl
      have rk1793_ : rk K F1789_ := rk_fs rk1780_ s1791_ (fs_rg rfl) rfl
      refine ga_aload_n (v := .ref 344) hm_184 rfl rfl rfl ?_
      refine fl_bipush hm_184 rfl rfl ?_
      have e1794_ : F1789_ 344 5 = F1776_ 344 5 := (s1791_ 344 5 rfl).trans (rfl)
      have b1795_ : 0 ≤ F1776_ 344 5 ∧ F1776_ 344 5 ≤ 600 := gi_g g1777_ rfl
      refine gVv (nY := 2) (F := 2) (L := 41) (As := [.int (Int32.ofInt 40)]) (b := 344) (rest := []) hm_184 rfl hm_51 rfl rfl (fl_ob sc_344) rfl rfl rfl rfl rfl (by omega) (by omega) (mc_51s hG F1789_ X g1790_ (K) (40) (0) hgK rk1793_ hkt (⟨by omega, by omega⟩) (by omega) (by omega)) (fun _ _ h => False.elim h) ?_
      have e1797_ : F1789_ 344 9 = F1776_ 344 9 := (s1791_ 344 9 rfl).trans (rfl)
      rintro A1_ ⟨F1800_, hA_, g1801_, s1802_, c1798_, c1799_⟩
      subst hA_
      have g1803_ : fs [(344, 344, 5, 5), (344, 344, 9, 10), (344, 344, 33, 33), (344, 344, 36, 36), (344, 344, 64, 64), (358, 358, 0, 100000), (360, 366, 0, 100000)] F F1800_ := fs_tr g1792_ s1802_ rfl
      have rk1804_ : rk K F1800_ := rk_fs rk1793_ s1802_ (fs_rg rfl) rfl
      try simp only [e1797_] at c1798_
      refine ga_aload_n (v := .ref 344) hm_184 rfl rfl rfl ?_
      refine fl_bipush hm_184 rfl rfl ?_
      have b1805_ : 0 ≤ F1800_ 344 5 ∧ F1800_ 344 5 ≤ 600 := gi_g g1801_ rfl
      refine gVv (nY := 2) (F := 2) (L := 44) (As := [.int (Int32.ofInt 16)]) (b := 344) (rest := []) hm_184 rfl hm_55 rfl rfl (fl_ob sc_344) rfl rfl rfl rfl rfl (by omega) (by omega) (mc_55s hG F1800_ X g1801_ (K) (16) ([58, 105, 110, 105, 116]) hgK rk1804_ hkt (⟨by omega, by omega⟩) (⟨by omega, by omega⟩) (by decide) (kw_16 rk1804_)) (fun _ _ h => False.elim h) ?_
      have b1807_ : 0 ≤ F1800_ 344 9 ∧ F1800_ 344 9 ≤ 5 := gi_g g1801_ rfl
      rintro A1_ ⟨F1810_, hA_, g1811_, s1812_, c1808_, c1809_⟩
      subst hA_
      have g1813_ : fs [(344, 344, 5, 5), (344, 344, 9, 10), (344, 344, 33, 33), (344, 344, 36, 36), (344, 344, 64, 64), (358, 358, 0, 100000), (360, 366, 0, 100000)] F F1810_ := fs_tr g1803_ s1812_ rfl
      have rk1814_ : rk K F1810_ := rk_fs rk1804_ s1812_ (fs_rg rfl) rfl
      refine ga_aload_n (v := .ref 344) hm_184 rfl rfl rfl ?_
      have b1815_ : 0 ≤ F1810_ 344 5 ∧ F1810_ 344 5 ≤ 600 := gi_g g1811_ rfl
      refine gVv (nY := 2) (F := 5) (L := 117) (As := []) (b := 344) (rest := []) hm_184 rfl hm_178 rfl rfl (fl_ob sc_344) rfl rfl rfl rfl rfl (by omega) (by omega) (mc_178 hG F1810_ X g1811_ (K) ([]) ([]) (pl) (ps) hgK rk1814_ hkt (⟨by omega, by omega⟩) ((trm_fs (trm_fs (trm_fs (trm_fs (trm_fs (trm_fs (trm_fs (trm_fs (trm_fs (trm_fs (trm_fs (trm_fs (trm_fs (trm_fs (trm_fs (trm_fs (trm_fs (trm_fs (trm_fs (tr5_0 h33) s8_ (by first | exact fs_rg rfl | exact fun r j hj => (fs_n (by omega) (fs_n (by omega) rfl)))) s18_ (by first | exact fs_rg rfl | exact fun r j hj => (fs_n (by omega) (fs_n (by omega) rfl)))) s28_ (by first | exact fs_rg rfl | exact fun r j hj => (fs_n (by omega) (fs_n (by omega) rfl)))) s38_ (by first | exact fs_rg rfl | exact fun r j hj => (fs_n (by omega) (fs_n (by omega) rfl)))) s50_ (by first | exact fs_rg rfl | exact fun r j hj => (fs_n (by omega) rfl))) s59_ (by first | exact fs_rg rfl | exact fun r j hj => (fs_n (by omega) rfl))) s69_ (by first | exact fs_rg rfl | exact fun r j hj => (fs_n (by omega) (fs_n (by omega) rfl)))) s79_ (by first | exact fs_rg rfl | exact fun r j hj => (fs_n (by omega) (fs_n (by omega) rfl)))) s89_ (by first | exact fs_rg rfl | exact fun r j hj => (fs_n (by omega) (fs_n (by omega) rfl)))) s101_ (by first | exact fs_rg rfl | exact fun r j hj => (fs_n (by omega) rfl))) s1079_ (by first | exact fs_rg rfl | exact fun r j hj => (fs_n (by omega) rfl))) s1088_ (by first | exact fs_rg rfl | exact fun r j hj => (fs_n (by omega) rfl))) s1098_ (by first | exact fs_rg rfl | exact fun r j hj => (fs_n (by omega) (fs_n (by omega) rfl)))) s1108_ (by first | exact fs_rg rfl | exact fun r j hj => (fs_n (by omega) (fs_n (by omega) rfl)))) s1118_ (by first | exact fs_rg rfl | exact fun r j hj => (fs_n (by omega) (fs_n (by omega) rfl)))) s1778_ (by first | exact fs_rg rfl | exact fun r j hj => (fs_n (by omega) (fs_n (by omega) rfl)))) s1791_ (by first | exact fs_rg rfl | exact fun r j hj => (fs_n (by omega) (fs_n (by omega) rfl)))) s1802_ (by first | exact fs_rg rfl | exact fun r j hj => (fs_n (by omega) (fs_n (by omega) rfl)))) s1812_ (by first | exact fs_rg rfl | exact fun r j hj => (fs_n (by omega) (fs_n (by omega) rfl))))) (rfl) ((rpn_fs (rpn_fs (rpn_fs (rpn_fs (rpn_fs (rpn_fs (rpn_fs (rpn_fs (rpn_fs (rpn_fs (rpn_fs (rpn_fs (rpn_fs (rpn_fs (rpn_fs (rpn_fs (rpn_fs (rpn_fs (rpn_fs hpl s8_ (fun _ => (by first | exact fs_c rfl | exact (fs_n (by omega) (fs_n (by omega) rfl)))) (by first | exact fs_c rfl | exact (fs_n (by omega) (fs_n (by omega) rfl)))) s18_ (fun _ => (by first | exact fs_c rfl | exact (fs_n (by omega) (fs_n (by omega) rfl)))) (by first | exact fs_c rfl | exact (fs_n (by omega) (fs_n (by omega) rfl)))) s28_ (fun _ => (by first | exact fs_c rfl | exact (fs_n (by omega) (fs_n (by omega) rfl)))) (by first | exact fs_c rfl | exact (fs_n (by omega) (fs_n (by omega) rfl)))) s38_ (fun _ => (by first | exact fs_c rfl | exact (fs_n (by omega) (fs_n (by omega) rfl)))) (by first | exact fs_c rfl | exact (fs_n (by omega) (fs_n (by omega) rfl)))) s50_ (fun _ => (by first | exact fs_c rfl | exact (fs_n (by omega) rfl))) (by first | exact fs_c rfl | exact (fs_n (by omega) rfl))) s59_ (fun _ => (by first | exact fs_c rfl | exact (fs_n (by omega) rfl))) (by first | exact fs_c rfl | exact (fs_n (by omega) rfl))) s69_ (fun _ => (by first | exact fs_c rfl | exact (fs_n (by omega) (fs_n (by omega) rfl)))) (by first | exact fs_c rfl | exact (fs_n (by omega) (fs_n (by omega) rfl)))) s79_ (fun _ => (by first | exact fs_c rfl | exact (fs_n (by omega) (fs_n (by omega) rfl)))) (by first | exact fs_c rfl | exact (fs_n (by omega) (fs_n (by omega) rfl)))) s89_ (fun _ => (by first | exact fs_c rfl | exact (fs_n (by omega) (fs_n (by omega) rfl)))) (by first | exact fs_c rfl | exact (fs_n (by omega) (fs_n (by omega) rfl)))) s101_ (fun _ => (by first | exact fs_c rfl | exact (fs_n (by omega) rfl))) (by first | exact fs_c rfl | exact (fs_n (by omega) rfl))) s1079_ (fun _ => (by first | exact fs_c rfl | exact (fs_n (by omega) rfl))) (by first | exact fs_c rfl | exact (fs_n (by omega) rfl))) s1088_ (fun _ => (by first | exact fs_c rfl | exact (fs_n (by omega) rfl))) (by first | exact fs_c rfl | exact (fs_n (by omega) rfl))) s1098_ (fun _ => (by first | exact fs_c rfl | exact (fs_n (by omega) (fs_n (by omega) rfl)))) (by first | exact fs_c rfl | exact (fs_n (by omega) (fs_n (by omega) rfl)))) s1108_ (fun _ => (by first | exact fs_c rfl | exact (fs_n (by omega) (fs_n (by omega) rfl)))) (by first | exact fs_c rfl | exact (fs_n (by omega) (fs_n (by omega) rfl)))) s1118_ (fun _ => (by first | exact fs_c rfl | exact (fs_n (by omega) (fs_n (by omega) rfl)))) (by first | exact fs_c rfl | exact (fs_n (by omega) (fs_n (by omega) rfl)))) s1778_ (fun _ => (by first | exact fs_c rfl | exact (fs_n (by omega) (fs_n (by omega) rfl)))) (by first | exact fs_c rfl | exact (fs_n (by omega) (fs_n (by omega) rfl)))) s1791_ (fun _ => (by first | exact fs_c rfl | exact (fs_n (by omega) (fs_n (by omega) rfl)))) (by first | exact fs_c rfl | exact (fs_n (by omega) (fs_n (by omega) rfl)))) s1802_ (fun _ => (by first | exact fs_c rfl | exact (fs_n (by omega) (fs_n (by omega) rfl)))) (by first | exact fs_c rfl | exact (fs_n (by omega) (fs_n (by omega) rfl)))) s1812_ (fun _ => (by first | exact fs_c rfl | exact (fs_n (by omega) (fs_n (by omega) rfl)))) (by first | exact fs_c rfl | exact (fs_n (by omega) (fs_n (by omega) rfl))))) (⟨(rprd_fs (rprd_fs (rprd_fs (rprd_fs (rprd_fs (rprd_fs (rprd_fs (rprd_fs (rprd_fs (rprd_fs (rprd_fs (rprd_fs (rprd_fs (rprd_fs (rprd_fs (rprd_fs (rprd_fs (rprd_fs (rprd_fs hps.1 s8_ (by first | exact fs_rg rfl | exact fun r j hj => (fs_n (by omega) (fs_n (by omega) rfl)))) s18_ (by first | exact fs_rg rfl | exact fun r j hj => (fs_n (by omega) (fs_n (by omega) rfl)))) s28_ (by first | exact fs_rg rfl | exact fun r j hj => (fs_n (by omega) (fs_n (by omega) rfl)))) s38_ (by first | exact fs_rg rfl | exact fun r j hj => (fs_n (by omega) (fs_n (by omega) rfl)))) s50_ (by first | exact fs_rg rfl | exact fun r j hj => (fs_n (by omega) rfl))) s59_ (by first | exact fs_rg rfl | exact fun r j hj => (fs_n (by omega) rfl))) s69_ (by first | exact fs_rg rfl | exact fun r j hj => (fs_n (by omega) (fs_n (by omega) rfl)))) s79_ (by first | exact fs_rg rfl | exact fun r j hj => (fs_n (by omega) (fs_n (by omega) rfl)))) s89_ (by first | exact fs_rg rfl | exact fun r j hj => (fs_n (by omega) (fs_n (by omega) rfl)))) s101_ (by first | exact fs_rg rfl | exact fun r j hj => (fs_n (by omega) rfl))) s1079_ (by first | exact fs_rg rfl | exact fun r j hj => (fs_n (by omega) rfl))) s1088_ (by first | exact fs_rg rfl | exact fun r j hj => (fs_n (by omega) rfl))) s1098_ (by first | exact fs_rg rfl | exact fun r j hj => (fs_n (by omega) (fs_n (by omega) rfl)))) s1108_ (by first | exact fs_rg rfl | exact fun r j hj => (fs_n (by omega) (fs_n (by omega) rfl)))) s1118_ (by first | exact fs_rg rfl | exact fun r j hj => (fs_n (by omega) (fs_n (by omega) rfl)))) s1778_ (by first | exact fs_rg rfl | exact fun r j hj => (fs_n (by omega) (fs_n (by omega) rfl)))) s1791_ (by first | exact fs_rg rfl | exact fun r j hj => (fs_n (by omega) (fs_n (by omega) rfl)))) s1802_ (by first | exact fs_rg rfl | exact fun r j hj => (fs_n (by omega) (fs_n (by omega) rfl)))) s1812_ (by first | exact fs_rg rfl | exact fun r j hj => (fs_n (by omega) (fs_n (by omega) rfl)))), hps.2⟩)) (fun _ _ h => False.elim h) ?_
      have b1817_ : 0 ≤ F1810_ 344 9 ∧ F1810_ 344 9 ≤ 5 := gi_g g1811_ rfl
      rintro A1_ ⟨F1820_, hA_, g1821_, s1822_, c1818_, c1819_⟩
      subst hA_
      have g1823_ : fs [(344, 344, 5, 5), (344, 344, 9, 10), (344, 344, 33, 33), (344, 344, 36, 36), (344, 344, 64, 64), (358, 358, 0, 100000), (360, 366, 0, 100000)] F F1820_ := fs_tr g1813_ s1822_ rfl
      have rk1824_ : rk K F1820_ := rk_fs rk1814_ s1822_ (fs_rg rfl) rfl
      refine ga_aload_n (v := .ref 344) hm_184 rfl rfl rfl ?_
      refine fl_bipush hm_184 rfl rfl ?_
      have b1825_ : 0 ≤ F1820_ 344 5 ∧ F1820_ 344 5 ≤ 600 := gi_g g1821_ rfl
      refine gVv (nY := 2) (F := 2) (L := 41) (As := [.int (Int32.ofInt 41)]) (b := 344) (rest := []) hm_184 rfl hm_51 rfl rfl (fl_ob sc_344) rfl rfl rfl rfl rfl (by omega) (by omega) (mc_51s hG F1820_ X g1821_ (K) (41) (1) hgK rk1824_ hkt (⟨by omega, by omega⟩) (by omega) (by omega)) (fun _ _ h => False.elim h) ?_
      have b1827_ : 0 ≤ F1820_ 344 9 ∧ F1820_ 344 9 ≤ 5 := gi_g g1821_ rfl
      rintro A1_ ⟨F1830_, hA_, g1831_, s1832_, c1828_, c1829_⟩
      subst hA_
      have g1833_ : fs [(344, 344, 5, 5), (344, 344, 9, 10), (344, 344, 33, 33), (344, 344, 36, 36), (344, 344, 64, 64), (358, 358, 0, 100000), (360, 366, 0, 100000)] F F1830_ := fs_tr g1823_ s1832_ rfl
      have rk1834_ : rk K F1830_ := rk_fs rk1824_ s1832_ (fs_rg rfl) rfl
      refine ga_aload_n (v := .ref 344) hm_184 rfl rfl rfl ?_
      refine fl_bipush hm_184 rfl rfl ?_
      have b1835_ : 0 ≤ F1830_ 344 5 ∧ F1830_ 344 5 ≤ 600 := gi_g g1831_ rfl
      refine gVv (nY := 2) (F := 2) (L := 41) (As := [.int (Int32.ofInt 40)]) (b := 344) (rest := []) hm_184 rfl hm_51 rfl rfl (fl_ob sc_344) rfl rfl rfl rfl rfl (by omega) (by omega) (mc_51s hG F1830_ X g1831_ (K) (40) (0) hgK rk1834_ hkt (⟨by omega, by omega⟩) (by omega) (by omega)) (fun _ _ h => False.elim h) ?_
      have b1837_ : 0 ≤ F1830_ 344 9 ∧ F1830_ 344 9 ≤ 5 := gi_g g1831_ rfl
      rintro A1_ ⟨F1840_, hA_, g1841_, s1842_, c1838_, c1839_⟩
      subst hA_
      have g1843_ : fs [(344, 344, 5, 5), (344, 344, 9, 10), (344, 344, 33, 33), (344, 344, 36, 36), (344, 344, 64, 64), (358, 358, 0, 100000), (360, 366, 0, 100000)] F F1840_ := fs_tr g1833_ s1842_ rfl
      have rk1844_ : rk K F1840_ := rk_fs rk1834_ s1842_ (fs_rg rfl) rfl
      refine ga_aload_n (v := .ref 344) hm_184 rfl rfl rfl ?_
      refine fl_bipush hm_184 rfl rfl ?_
      have b1845_ : 0 ≤ F1840_ 344 5 ∧ F1840_ 344 5 ≤ 600 := gi_g g1841_ rfl
      refine gVv (nY := 2) (F := 2) (L := 44) (As := [.int (Int32.ofInt 17)]) (b := 344) (rest := []) hm_184 rfl hm_55 rfl rfl (fl_ob sc_344) rfl rfl rfl rfl rfl (by omega) (by omega) (mc_55s hG F1840_ X g1841_ (K) (17) ([58, 103, 111, 97, 108]) hgK rk1844_ hkt (⟨by omega, by omega⟩) (⟨by omega, by omega⟩) (by decide) (kw_17 rk1844_)) (fun _ _ h => False.elim h) ?_
      have b1847_ : 0 ≤ F1840_ 344 9 ∧ F1840_ 344 9 ≤ 5 := gi_g g1841_ rfl
      rintro A1_ ⟨F1850_, hA_, g1851_, s1852_, c1848_, c1849_⟩
      subst hA_
      have g1853_ : fs [(344, 344, 5, 5), (344, 344, 9, 10), (344, 344, 33, 33), (344, 344, 36, 36), (344, 344, 64, 64), (358, 358, 0, 100000), (360, 366, 0, 100000)] F F1850_ := fs_tr g1843_ s1852_ rfl
      have rk1854_ : rk K F1850_ := rk_fs rk1844_ s1852_ (fs_rg rfl) rfl
      refine ga_aload_n (v := .ref 344) hm_184 rfl rfl rfl ?_
      refine ga_getr (b := 358) hm_184 rfl sc_344 rfl ?_
      refine fl_iconst hm_184 rfl ?_
      refine fl_iconst hm_184 rfl ?_
      refine fl_iast (z := 5) (v := 0) hm_184 rfl sc_358 (by omega) (by omega) (by omega) ?_
      refine ga_aload_n (v := .ref 344) hm_184 rfl rfl rfl ?_
      refine fl_iconst hm_184 rfl ?_
      refine fl_bipush hm_184 rfl rfl ?_
      obtain ⟨F1855_, q1856_⟩ : ∃ Fq_, Fq_ = (fl_u F1850_ 358 (5 : Int).toNat 0) := ⟨_, rfl⟩
      rw [← q1856_]
      have g1857_ : gi F1855_ := by rw [q1856_]; exact gi_u (g1851_) rfl (by omega) (by omega)
      have g1858_ : fs [(344, 344, 5, 5), (344, 344, 9, 10), (344, 344, 33, 33), (344, 344, 36, 36), (344, 344, 64, 64), (358, 358, 0, 100000), (360, 366, 0, 100000)] F F1855_ := by rw [q1856_]; exact fs_u (g1853_) rfl
      have rk1859_ : rk K F1855_ := by rw [q1856_]; exact rk_u (rk1854_) (by first | decide | exact nc_ rfl | omega) (by first | decide | exact nc_ rfl | omega)
      have e1860_ : F1855_ 344 5 = F1850_ 344 5 := by rw [q1856_]; exact fl_u_ne (by first | exact nc_ rfl | decide | omega)
      have b1861_ : 0 ≤ F1850_ 344 5 ∧ F1850_ 344 5 ≤ 600 := gi_g g1851_ rfl
      refine gVv (nY := 4) (F := 6) (L := 142) (As := [.int (Int32.ofInt 5), .int (Int32.ofInt 40)]) (b := 344) (rest := []) hm_184 rfl hm_175 rfl rfl (fl_ob sc_344) rfl rfl rfl rfl rfl (by omega) (by omega) (mc_175s hG F1855_ X g1857_ (K) (5) (40) (2) ([]) ([]) (pl) (ps) hgK rk1859_ hkt (⟨by omega, by omega⟩) ((by rw [q1856_]; exact (trm_u (trm_fs (trm_fs (trm_fs (trm_fs (trm_fs (trm_fs (trm_fs (trm_fs (trm_fs (trm_fs (trm_fs (trm_fs (trm_fs (trm_fs (trm_fs (trm_fs (trm_fs (trm_fs (trm_fs (trm_fs (trm_fs (trm_fs (trm_fs (tr5_0 h33) s8_ (by first | exact fs_rg rfl | exact fun r j hj => (fs_n (by omega) (fs_n (by omega) rfl)))) s18_ (by first | exact fs_rg rfl | exact fun r j hj => (fs_n (by omega) (fs_n (by omega) rfl)))) s28_ (by first | exact fs_rg rfl | exact fun r j hj => (fs_n (by omega) (fs_n (by omega) rfl)))) s38_ (by first | exact fs_rg rfl | exact fun r j hj => (fs_n (by omega) (fs_n (by omega) rfl)))) s50_ (by first | exact fs_rg rfl | exact fun r j hj => (fs_n (by omega) rfl))) s59_ (by first | exact fs_rg rfl | exact fun r j hj => (fs_n (by omega) rfl))) s69_ (by first | exact fs_rg rfl | exact fun r j hj => (fs_n (by omega) (fs_n (by omega) rfl)))) s79_ (by first | exact fs_rg rfl | exact fun r j hj => (fs_n (by omega) (fs_n (by omega) rfl)))) s89_ (by first | exact fs_rg rfl | exact fun r j hj => (fs_n (by omega) (fs_n (by omega) rfl)))) s101_ (by first | exact fs_rg rfl | exact fun r j hj => (fs_n (by omega) rfl))) s1079_ (by first | exact fs_rg rfl | exact fun r j hj => (fs_n (by omega) rfl))) s1088_ (by first | exact fs_rg rfl | exact fun r j hj => (fs_n (by omega) rfl))) s1098_ (by first | exact fs_rg rfl | exact fun r j hj => (fs_n (by omega) (fs_n (by omega) rfl)))) s1108_ (by first | exact fs_rg rfl | exact fun r j hj => (fs_n (by omega) (fs_n (by omega) rfl)))) s1118_ (by first | exact fs_rg rfl | exact fun r j hj => (fs_n (by omega) (fs_n (by omega) rfl)))) s1778_ (by first | exact fs_rg rfl | exact fun r j hj => (fs_n (by omega) (fs_n (by omega) rfl)))) s1791_ (by first | exact fs_rg rfl | exact fun r j hj => (fs_n (by omega) (fs_n (by omega) rfl)))) s1802_ (by first | exact fs_rg rfl | exact fun r j hj => (fs_n (by omega) (fs_n (by omega) rfl)))) s1812_ (by first | exact fs_rg rfl | exact fun r j hj => (fs_n (by omega) (fs_n (by omega) rfl)))) s1822_ (by first | exact fs_rg rfl | exact fun r j hj => (fs_n (by omega) (fs_n (by omega) (fs_n (by omega) (fs_n (by omega) rfl)))))) s1832_ (by first | exact fs_rg rfl | exact fun r j hj => (fs_n (by omega) (fs_n (by omega) rfl)))) s1842_ (by first | exact fs_rg rfl | exact fun r j hj => (fs_n (by omega) (fs_n (by omega) rfl)))) s1852_ (by first | exact fs_rg rfl | exact fun r j hj => (fs_n (by omega) (fs_n (by omega) rfl)))) (by first | decide | exact nc_ rfl | omega)))) (rfl) (⟨by omega, by omega⟩) ((by rw [q1856_]; exact (rpn_u (rpn_fs (rpn_fs (rpn_fs (rpn_fs (rpn_fs (rpn_fs (rpn_fs (rpn_fs (rpn_fs (rpn_fs (rpn_fs (rpn_fs (rpn_fs (rpn_fs (rpn_fs (rpn_fs (rpn_fs (rpn_fs (rpn_fs (rpn_fs (rpn_fs (rpn_fs (rpn_fs hpl s8_ (fun _ => (by first | exact fs_c rfl | exact (fs_n (by omega) (fs_n (by omega) rfl)))) (by first | exact fs_c rfl | exact (fs_n (by omega) (fs_n (by omega) rfl)))) s18_ (fun _ => (by first | exact fs_c rfl | exact (fs_n (by omega) (fs_n (by omega) rfl)))) (by first | exact fs_c rfl | exact (fs_n (by omega) (fs_n (by omega) rfl)))) s28_ (fun _ => (by first | exact fs_c rfl | exact (fs_n (by omega) (fs_n (by omega) rfl)))) (by first | exact fs_c rfl | exact (fs_n (by omega) (fs_n (by omega) rfl)))) s38_ (fun _ => (by first | exact fs_c rfl | exact (fs_n (by omega) (fs_n (by omega) rfl)))) (by first | exact fs_c rfl | exact (fs_n (by omega) (fs_n (by omega) rfl)))) s50_ (fun _ => (by first | exact fs_c rfl | exact (fs_n (by omega) rfl))) (by first | exact fs_c rfl | exact (fs_n (by omega) rfl))) s59_ (fun _ => (by first | exact fs_c rfl | exact (fs_n (by omega) rfl))) (by first | exact fs_c rfl | exact (fs_n (by omega) rfl))) s69_ (fun _ => (by first | exact fs_c rfl | exact (fs_n (by omega) (fs_n (by omega) rfl)))) (by first | exact fs_c rfl | exact (fs_n (by omega) (fs_n (by omega) rfl)))) s79_ (fun _ => (by first | exact fs_c rfl | exact (fs_n (by omega) (fs_n (by omega) rfl)))) (by first | exact fs_c rfl | exact (fs_n (by omega) (fs_n (by omega) rfl)))) s89_ (fun _ => (by first | exact fs_c rfl | exact (fs_n (by omega) (fs_n (by omega) rfl)))) (by first | exact fs_c rfl | exact (fs_n (by omega) (fs_n (by omega) rfl)))) s101_ (fun _ => (by first | exact fs_c rfl | exact (fs_n (by omega) rfl))) (by first | exact fs_c rfl | exact (fs_n (by omega) rfl))) s1079_ (fun _ => (by first | exact fs_c rfl | exact (fs_n (by omega) rfl))) (by first | exact fs_c rfl | exact (fs_n (by omega) rfl))) s1088_ (fun _ => (by first | exact fs_c rfl | exact (fs_n (by omega) rfl))) (by first | exact fs_c rfl | exact (fs_n (by omega) rfl))) s1098_ (fun _ => (by first | exact fs_c rfl | exact (fs_n (by omega) (fs_n (by omega) rfl)))) (by first | exact fs_c rfl | exact (fs_n (by omega) (fs_n (by omega) rfl)))) s1108_ (fun _ => (by first | exact fs_c rfl | exact (fs_n (by omega) (fs_n (by omega) rfl)))) (by first | exact fs_c rfl | exact (fs_n (by omega) (fs_n (by omega) rfl)))) s1118_ (fun _ => (by first | exact fs_c rfl | exact (fs_n (by omega) (fs_n (by omega) rfl)))) (by first | exact fs_c rfl | exact (fs_n (by omega) (fs_n (by omega) rfl)))) s1778_ (fun _ => (by first | exact fs_c rfl | exact (fs_n (by omega) (fs_n (by omega) rfl)))) (by first | exact fs_c rfl | exact (fs_n (by omega) (fs_n (by omega) rfl)))) s1791_ (fun _ => (by first | exact fs_c rfl | exact (fs_n (by omega) (fs_n (by omega) rfl)))) (by first | exact fs_c rfl | exact (fs_n (by omega) (fs_n (by omega) rfl)))) s1802_ (fun _ => (by first | exact fs_c rfl | exact (fs_n (by omega) (fs_n (by omega) rfl)))) (by first | exact fs_c rfl | exact (fs_n (by omega) (fs_n (by omega) rfl)))) s1812_ (fun _ => (by first | exact fs_c rfl | exact (fs_n (by omega) (fs_n (by omega) rfl)))) (by first | exact fs_c rfl | exact (fs_n (by omega) (fs_n (by omega) rfl)))) s1822_ (fun _ => (by first | exact fs_c rfl | exact (fs_n (by omega) (fs_n (by omega) (fs_n (by omega) (fs_n (by omega) rfl)))))) (by first | exact fs_c rfl | exact (fs_n (by omega) (fs_n (by omega) (fs_n (by omega) (fs_n (by omega) rfl)))))) s1832_ (fun _ => (by first | exact fs_c rfl | exact (fs_n (by omega) (fs_n (by omega) rfl)))) (by first | exact fs_c rfl | exact (fs_n (by omega) (fs_n (by omega) rfl)))) s1842_ (fun _ => (by first | exact fs_c rfl | exact (fs_n (by omega) (fs_n (by omega) rfl)))) (by first | exact fs_c rfl | exact (fs_n (by omega) (fs_n (by omega) rfl)))) s1852_ (fun _ => (by first | exact fs_c rfl | exact (fs_n (by omega) (fs_n (by omega) rfl)))) (by first | exact fs_c rfl | exact (fs_n (by omega) (fs_n (by omega) rfl)))) (by first | decide | exact nc_ rfl | omega) (by first | decide | exact nc_ rfl | omega)))) (⟨(by rw [q1856_]; exact (rprd_u (rprd_fs (rprd_fs (rprd_fs (rprd_fs (rprd_fs (rprd_fs (rprd_fs (rprd_fs (rprd_fs (rprd_fs (rprd_fs (rprd_fs (rprd_fs (rprd_fs (rprd_fs (rprd_fs (rprd_fs (rprd_fs (rprd_fs (rprd_fs (rprd_fs (rprd_fs (rprd_fs hps.1 s8_ (by first | exact fs_rg rfl | exact fun r j hj => (fs_n (by omega) (fs_n (by omega) rfl)))) s18_ (by first | exact fs_rg rfl | exact fun r j hj => (fs_n (by omega) (fs_n (by omega) rfl)))) s28_ (by first | exact fs_rg rfl | exact fun r j hj => (fs_n (by omega) (fs_n (by omega) rfl)))) s38_ (by first | exact fs_rg rfl | exact fun r j hj => (fs_n (by omega) (fs_n (by omega) rfl)))) s50_ (by first | exact fs_rg rfl | exact fun r j hj => (fs_n (by omega) rfl))) s59_ (by first | exact fs_rg rfl | exact fun r j hj => (fs_n (by omega) rfl))) s69_ (by first | exact fs_rg rfl | exact fun r j hj => (fs_n (by omega) (fs_n (by omega) rfl)))) s79_ (by first | exact fs_rg rfl | exact fun r j hj => (fs_n (by omega) (fs_n (by omega) rfl)))) s89_ (by first | exact fs_rg rfl | exact fun r j hj => (fs_n (by omega) (fs_n (by omega) rfl)))) s101_ (by first | exact fs_rg rfl | exact fun r j hj => (fs_n (by omega) rfl))) s1079_ (by first | exact fs_rg rfl | exact fun r j hj => (fs_n (by omega) rfl))) s1088_ (by first | exact fs_rg rfl | exact fun r j hj => (fs_n (by omega) rfl))) s1098_ (by first | exact fs_rg rfl | exact fun r j hj => (fs_n (by omega) (fs_n (by omega) rfl)))) s1108_ (by first | exact fs_rg rfl | exact fun r j hj => (fs_n (by omega) (fs_n (by omega) rfl)))) s1118_ (by first | exact fs_rg rfl | exact fun r j hj => (fs_n (by omega) (fs_n (by omega) rfl)))) s1778_ (by first | exact fs_rg rfl | exact fun r j hj => (fs_n (by omega) (fs_n (by omega) rfl)))) s1791_ (by first | exact fs_rg rfl | exact fun r j hj => (fs_n (by omega) (fs_n (by omega) rfl)))) s1802_ (by first | exact fs_rg rfl | exact fun r j hj => (fs_n (by omega) (fs_n (by omega) rfl)))) s1812_ (by first | exact fs_rg rfl | exact fun r j hj => (fs_n (by omega) (fs_n (by omega) rfl)))) s1822_ (by first | exact fs_rg rfl | exact fun r j hj => (fs_n (by omega) (fs_n (by omega) (fs_n (by omega) (fs_n (by omega) rfl)))))) s1832_ (by first | exact fs_rg rfl | exact fun r j hj => (fs_n (by omega) (fs_n (by omega) rfl)))) s1842_ (by first | exact fs_rg rfl | exact fun r j hj => (fs_n (by omega) (fs_n (by omega) rfl)))) s1852_ (by first | exact fs_rg rfl | exact fun r j hj => (fs_n (by omega) (fs_n (by omega) rfl)))) (by first | decide | exact nc_ rfl | omega))), hps.2⟩) (⟨by omega, by omega⟩) (Or.inr (by omega)) (by rw [q1856_]; exact fl_u_eq)) (fun _ _ h => False.elim h) ?_
      have e1863_ : F1855_ 344 9 = F1850_ 344 9 := by rw [q1856_]; exact fl_u_ne (by first | exact nc_ rfl | decide | omega)
      have b1864_ : 0 ≤ F1850_ 344 9 ∧ F1850_ 344 9 ≤ 5 := gi_g g1851_ rfl
      rintro A1_ ⟨F1867_, hA_, g1868_, s1869_, c1865_, c1866_⟩
      subst hA_
      have g1870_ : fs [(344, 344, 5, 5), (344, 344, 9, 10), (344, 344, 33, 33), (344, 344, 36, 36), (344, 344, 64, 64), (358, 358, 0, 100000), (360, 366, 0, 100000)] F F1867_ := fs_tr g1858_ s1869_ rfl
      have rk1871_ : rk K F1867_ := rk_fs rk1859_ s1869_ (fs_rg rfl) rfl
      try simp only [e1863_] at c1865_
      refine ga_aload_n (v := .ref 344) hm_184 rfl rfl rfl ?_
      refine fl_bipush hm_184 rfl rfl ?_
      have b1872_ : 0 ≤ F1867_ 344 5 ∧ F1867_ 344 5 ≤ 600 := gi_g g1868_ rfl
      refine gVv (nY := 2) (F := 2) (L := 41) (As := [.int (Int32.ofInt 41)]) (b := 344) (rest := []) hm_184 rfl hm_51 rfl rfl (fl_ob sc_344) rfl rfl rfl rfl rfl (by omega) (by omega) (mc_51s hG F1867_ X g1868_ (K) (41) (1) hgK rk1871_ hkt (⟨by omega, by omega⟩) (by omega) (by omega)) (fun _ _ h => False.elim h) ?_
      have b1874_ : 0 ≤ F1867_ 344 9 ∧ F1867_ 344 9 ≤ 5 := gi_g g1868_ rfl
      rintro A1_ ⟨F1877_, hA_, g1878_, s1879_, c1875_, c1876_⟩
      subst hA_
      have g1880_ : fs [(344, 344, 5, 5), (344, 344, 9, 10), (344, 344, 33, 33), (344, 344, 36, 36), (344, 344, 64, 64), (358, 358, 0, 100000), (360, 366, 0, 100000)] F F1877_ := fs_tr g1870_ s1879_ rfl
      have rk1881_ : rk K F1877_ := rk_fs rk1871_ s1879_ (fs_rg rfl) rfl
      refine ga_aload_n (v := .ref 344) hm_184 rfl rfl rfl ?_
      refine fl_bipush hm_184 rfl rfl ?_
      have b1882_ : 0 ≤ F1877_ 344 5 ∧ F1877_ 344 5 ≤ 600 := gi_g g1878_ rfl
      refine gVv (nY := 2) (F := 2) (L := 41) (As := [.int (Int32.ofInt 41)]) (b := 344) (rest := []) hm_184 rfl hm_51 rfl rfl (fl_ob sc_344) rfl rfl rfl rfl rfl (by omega) (by omega) (mc_51s hG F1877_ X g1878_ (K) (41) (1) hgK rk1881_ hkt (⟨by omega, by omega⟩) (by omega) (by omega)) (fun _ _ h => False.elim h) ?_
      have b1884_ : 0 ≤ F1877_ 344 9 ∧ F1877_ 344 9 ≤ 5 := gi_g g1878_ rfl
      rintro A1_ ⟨F1887_, hA_, g1888_, s1889_, c1885_, c1886_⟩
      subst hA_
      have g1890_ : fs [(344, 344, 5, 5), (344, 344, 9, 10), (344, 344, 33, 33), (344, 344, 36, 36), (344, 344, 64, 64), (358, 358, 0, 100000), (360, 366, 0, 100000)] F F1887_ := fs_tr g1880_ s1889_ rfl
      have rk1891_ : rk K F1887_ := rk_fs rk1881_ s1889_ (fs_rg rfl) rfl
      refine ga_aload_n (v := .ref 344) hm_184 rfl rfl rfl ?_
      refine gIi (nY := 1) (F := 0) (L := 0) (As := []) (b := 344) (rest := []) hm_184 rfl hm_59 rfl rfl (fl_ob sc_344) rfl rfl rfl rfl rfl (by omega) (by omega) ?_
      intro f1892_ l1893_ h1894_ h1895_
      show fl_R xi_ms 59 f1892_ l1893_ 0 [(0, .ref 344)] [] _ _
      refine ga_aload_n (v := .ref 344) hm_59 rfl rfl rfl ?_
      have b1896_ : 0 ≤ F1887_ 344 9 ∧ F1887_ 344 9 ≤ 5 := gi_g g1888_ rfl
      refine ga_geti (z := F1887_ 344 9) hm_59 rfl sc_344 rfl (rfl) ?_
      refine fl_if_le (a := F1887_ 344 9) hm_59 rfl ⟨by omega, by omega⟩ (fun h1897_ => ?_) (fun h1898_ => ?_)
      ·
        refine fl_iconst hm_59 rfl ?_
        refine gr_i hm_59 rfl rfl (ga_nb (by omega)) ?_
        clear h1894_ h1895_ f1892_ l1893_
        refine fl_if_ne hm_184 rfl ⟨by omega, by omega⟩ (fun h => absurd h (by omega)) (fun _ => ?_)
        refine ga_aload_n (v := .ref 344) hm_184 rfl rfl rfl ?_
        have b1899_ : 0 ≤ F1887_ 344 5 ∧ F1887_ 344 5 ≤ 600 := gi_g g1888_ rfl
        refine ga_geti (z := F1887_ 344 5) hm_184 rfl sc_344 rfl (rfl) ?_
        refine ga_aload_n (v := .ref 344) hm_184 rfl rfl rfl ?_
        have e1900_ : F1887_ 344 4 = K 1 6 - 1 := rk1891_.2.1
        refine ga_geti (z := K 1 6 - 1) hm_184 rfl sc_344 rfl (e1900_) ?_
        refine fl_icmp_ge (a := F1887_ 344 5) (b := K 1 6 - 1) hm_184 rfl ⟨by omega, by omega⟩ ⟨by omega, by omega⟩ (fun h1901_ => ?_) (fun h1902_ => ?_)
        ·
          refine gr_v hm_184 rfl rfl ?_
          exact ⟨F1887_, rfl, g1888_, g1890_, (⟨by omega, by omega⟩)⟩
        refine ga_aload_n (v := .ref 344) hm_184 rfl rfl rfl ?_
        refine fl_iconst hm_184 rfl ?_
        refine gVv (nY := 2) (F := 0) (L := 0) (As := [.int (Int32.ofInt 1)]) (b := 344) (rest := []) hm_184 rfl hm_54 rfl rfl (fl_ob sc_344) rfl rfl rfl rfl rfl (by omega) (by omega) (mc_54 hG F1887_ X g1888_ (K) (1) hgK rk1891_ hkt (⟨by omega, by omega⟩) (⟨by omega, by omega⟩)) (fun _ _ h => False.elim h) ?_
        have b1904_ : 0 ≤ F1887_ 344 10 ∧ F1887_ 344 10 ≤ 600 := gi_g g1888_ rfl
        rintro A1_ ⟨F1908_, hA_, g1909_, s1910_, c1905_, c1906_, c1907_⟩
        subst hA_
        have g1911_ : fs [(344, 344, 5, 5), (344, 344, 9, 10), (344, 344, 33, 33), (344, 344, 36, 36), (344, 344, 64, 64), (358, 358, 0, 100000), (360, 366, 0, 100000)] F F1908_ := fs_tr g1890_ s1910_ rfl
        have rk1912_ : rk K F1908_ := rk_fs rk1891_ s1910_ (fs_rg rfl) rfl
        have c1906_s := c1906_.1 (by omega)
        clear c1906_
        refine gr_v hm_184 rfl rfl ?_
        have e1913_ : F1908_ 344 5 = F1887_ 344 5 := (s1910_ 344 5 rfl).trans (rfl)
        exact ⟨F1908_, rfl, g1909_, g1911_, (⟨by omega, by omega⟩)⟩
      refine fl_iconst hm_59 rfl ?_
      refine fl_goto hm_59 rfl ?_
      refine gr_i hm_59 rfl rfl (ga_nb (by omega)) ?_
      clear h1894_ h1895_ f1892_ l1893_
      refine fl_if_ne hm_184 rfl ⟨by omega, by omega⟩ (fun _ => ?_) (fun h => absurd (by omega) h)
      refine gr_v hm_184 rfl rfl ?_
      have b1914_ : 0 ≤ F1887_ 344 5 ∧ F1887_ 344 5 ≤ 600 := gi_g g1888_ rfl
      exact ⟨F1887_, rfl, g1888_, g1890_, (⟨by omega, by omega⟩)⟩
    refine fl_iconst hm_59 rfl ?_
    refine fl_goto hm_59 rfl ?_
    refine gr_i hm_59 rfl rfl (ga_nb (by omega)) ?_
    clear h1783_ h1784_ f1781_ l1782_
    refine fl_if_ne hm_184 rfl ⟨by omega, by omega⟩ (fun _ => ?_) (fun h => absurd (by omega) h)
    refine ga_aload_n (v := .ref 344) hm_184 rfl rfl rfl ?_
    refine fl_bipush hm_184 rfl rfl ?_
    have b1915_ : 0 ≤ F1776_ 344 5 ∧ F1776_ 344 5 ≤ 600 := gi_g g1777_ rfl
    refine gVv (nY := 2) (F := 2) (L := 41) (As := [.int (Int32.ofInt 40)]) (b := 344) (rest := []) hm_184 rfl hm_51 rfl rfl (fl_ob sc_344) rfl rfl rfl rfl rfl (by omega) (by omega) (mc_51s hG F1776_ X g1777_ (K) (40) (0) hgK rk1780_ hkt (⟨by omega, by omega⟩) (by omega) (by omega)) (fun _ _ h => False.elim h) ?_
    rintro A1_ ⟨F1919_, hA_, g1920_, s1921_, c1917_, c1918_⟩
    subst hA_
    have g1922_ : fs [(344, 344, 5, 5), (344, 344, 9, 10), (344, 344, 33, 33), (344, 344, 36, 36), (344, 344, 64, 64), (358, 358, 0, 100000), (360, 366, 0, 100000)] F F1919_ := fs_tr g1779_ s1921_ rfl
    have rk1923_ : rk K F1919_ := rk_fs rk1780_ s1921_ (fs_rg rfl) rfl
    refine ga_aload_n (v := .ref 344) hm_184 rfl rfl rfl ?_
    refine fl_bipush hm_184 rfl rfl ?_
    have b1924_ : 0 ≤ F1919_ 344 5 ∧ F1919_ 344 5 ≤ 600 := gi_g g1920_ rfl
    refine gVv (nY := 2) (F := 2) (L := 44) (As := [.int (Int32.ofInt 16)]) (b := 344) (rest := []) hm_184 rfl hm_55 rfl rfl (fl_ob sc_344) rfl rfl rfl rfl rfl (by omega) (by omega) (mc_55s hG F1919_ X g1920_ (K) (16) ([58, 105, 110, 105, 116]) hgK rk1923_ hkt (⟨by omega, by omega⟩) (⟨by omega, by omega⟩) (by decide) (kw_16 rk1923_)) (fun _ _ h => False.elim h) ?_
    have b1926_ : 0 ≤ F1919_ 344 9 ∧ F1919_ 344 9 ≤ 5 := gi_g g1920_ rfl
    rintro A1_ ⟨F1929_, hA_, g1930_, s1931_, c1927_, c1928_⟩
    subst hA_
    have g1932_ : fs [(344, 344, 5, 5), (344, 344, 9, 10), (344, 344, 33, 33), (344, 344, 36, 36), (344, 344, 64, 64), (358, 358, 0, 100000), (360, 366, 0, 100000)] F F1929_ := fs_tr g1922_ s1931_ rfl
    have rk1933_ : rk K F1929_ := rk_fs rk1923_ s1931_ (fs_rg rfl) rfl
    refine ga_aload_n (v := .ref 344) hm_184 rfl rfl rfl ?_
    have b1934_ : 0 ≤ F1929_ 344 5 ∧ F1929_ 344 5 ≤ 600 := gi_g g1930_ rfl
    refine gVv (nY := 2) (F := 5) (L := 117) (As := []) (b := 344) (rest := []) hm_184 rfl hm_178 rfl rfl (fl_ob sc_344) rfl rfl rfl rfl rfl (by omega) (by omega) (mc_178 hG F1929_ X g1930_ (K) ([]) ([]) (pl) (ps) hgK rk1933_ hkt (⟨by omega, by omega⟩) ((trm_fs (trm_fs (trm_fs (trm_fs (trm_fs (trm_fs (trm_fs (trm_fs (trm_fs (trm_fs (trm_fs (trm_fs (trm_fs (trm_fs (trm_fs (trm_fs (trm_fs (trm_fs (tr5_0 h33) s8_ (by first | exact fs_rg rfl | exact fun r j hj => (fs_n (by omega) (fs_n (by omega) rfl)))) s18_ (by first | exact fs_rg rfl | exact fun r j hj => (fs_n (by omega) (fs_n (by omega) rfl)))) s28_ (by first | exact fs_rg rfl | exact fun r j hj => (fs_n (by omega) (fs_n (by omega) rfl)))) s38_ (by first | exact fs_rg rfl | exact fun r j hj => (fs_n (by omega) (fs_n (by omega) rfl)))) s50_ (by first | exact fs_rg rfl | exact fun r j hj => (fs_n (by omega) rfl))) s59_ (by first | exact fs_rg rfl | exact fun r j hj => (fs_n (by omega) rfl))) s69_ (by first | exact fs_rg rfl | exact fun r j hj => (fs_n (by omega) (fs_n (by omega) rfl)))) s79_ (by first | exact fs_rg rfl | exact fun r j hj => (fs_n (by omega) (fs_n (by omega) rfl)))) s89_ (by first | exact fs_rg rfl | exact fun r j hj => (fs_n (by omega) (fs_n (by omega) rfl)))) s101_ (by first | exact fs_rg rfl | exact fun r j hj => (fs_n (by omega) rfl))) s1079_ (by first | exact fs_rg rfl | exact fun r j hj => (fs_n (by omega) rfl))) s1088_ (by first | exact fs_rg rfl | exact fun r j hj => (fs_n (by omega) rfl))) s1098_ (by first | exact fs_rg rfl | exact fun r j hj => (fs_n (by omega) (fs_n (by omega) rfl)))) s1108_ (by first | exact fs_rg rfl | exact fun r j hj => (fs_n (by omega) (fs_n (by omega) rfl)))) s1118_ (by first | exact fs_rg rfl | exact fun r j hj => (fs_n (by omega) (fs_n (by omega) rfl)))) s1778_ (by first | exact fs_rg rfl | exact fun r j hj => (fs_n (by omega) (fs_n (by omega) rfl)))) s1921_ (by first | exact fs_rg rfl | exact fun r j hj => (fs_n (by omega) (fs_n (by omega) rfl)))) s1931_ (by first | exact fs_rg rfl | exact fun r j hj => (fs_n (by omega) (fs_n (by omega) rfl))))) (rfl) ((rpn_fs (rpn_fs (rpn_fs (rpn_fs (rpn_fs (rpn_fs (rpn_fs (rpn_fs (rpn_fs (rpn_fs (rpn_fs (rpn_fs (rpn_fs (rpn_fs (rpn_fs (rpn_fs (rpn_fs (rpn_fs hpl s8_ (fun _ => (by first | exact fs_c rfl | exact (fs_n (by omega) (fs_n (by omega) rfl)))) (by first | exact fs_c rfl | exact (fs_n (by omega) (fs_n (by omega) rfl)))) s18_ (fun _ => (by first | exact fs_c rfl | exact (fs_n (by omega) (fs_n (by omega) rfl)))) (by first | exact fs_c rfl | exact (fs_n (by omega) (fs_n (by omega) rfl)))) s28_ (fun _ => (by first | exact fs_c rfl | exact (fs_n (by omega) (fs_n (by omega) rfl)))) (by first | exact fs_c rfl | exact (fs_n (by omega) (fs_n (by omega) rfl)))) s38_ (fun _ => (by first | exact fs_c rfl | exact (fs_n (by omega) (fs_n (by omega) rfl)))) (by first | exact fs_c rfl | exact (fs_n (by omega) (fs_n (by omega) rfl)))) s50_ (fun _ => (by first | exact fs_c rfl | exact (fs_n (by omega) rfl))) (by first | exact fs_c rfl | exact (fs_n (by omega) rfl))) s59_ (fun _ => (by first | exact fs_c rfl | exact (fs_n (by omega) rfl))) (by first | exact fs_c rfl | exact (fs_n (by omega) rfl))) s69_ (fun _ => (by first | exact fs_c rfl | exact (fs_n (by omega) (fs_n (by omega) rfl)))) (by first | exact fs_c rfl | exact (fs_n (by omega) (fs_n (by omega) rfl)))) s79_ (fun _ => (by first | exact fs_c rfl | exact (fs_n (by omega) (fs_n (by omega) rfl)))) (by first | exact fs_c rfl | exact (fs_n (by omega) (fs_n (by omega) rfl)))) s89_ (fun _ => (by first | exact fs_c rfl | exact (fs_n (by omega) (fs_n (by omega) rfl)))) (by first | exact fs_c rfl | exact (fs_n (by omega) (fs_n (by omega) rfl)))) s101_ (fun _ => (by first | exact fs_c rfl | exact (fs_n (by omega) rfl))) (by first | exact fs_c rfl | exact (fs_n (by omega) rfl))) s1079_ (fun _ => (by first | exact fs_c rfl | exact (fs_n (by omega) rfl))) (by first | exact fs_c rfl | exact (fs_n (by omega) rfl))) s1088_ (fun _ => (by first | exact fs_c rfl | exact (fs_n (by omega) rfl))) (by first | exact fs_c rfl | exact (fs_n (by omega) rfl))) s1098_ (fun _ => (by first | exact fs_c rfl | exact (fs_n (by omega) (fs_n (by omega) rfl)))) (by first | exact fs_c rfl | exact (fs_n (by omega) (fs_n (by omega) rfl)))) s1108_ (fun _ => (by first | exact fs_c rfl | exact (fs_n (by omega) (fs_n (by omega) rfl)))) (by first | exact fs_c rfl | exact (fs_n (by omega) (fs_n (by omega) rfl)))) s1118_ (fun _ => (by first | exact fs_c rfl | exact (fs_n (by omega) (fs_n (by omega) rfl)))) (by first | exact fs_c rfl | exact (fs_n (by omega) (fs_n (by omega) rfl)))) s1778_ (fun _ => (by first | exact fs_c rfl | exact (fs_n (by omega) (fs_n (by omega) rfl)))) (by first | exact fs_c rfl | exact (fs_n (by omega) (fs_n (by omega) rfl)))) s1921_ (fun _ => (by first | exact fs_c rfl | exact (fs_n (by omega) (fs_n (by omega) rfl)))) (by first | exact fs_c rfl | exact (fs_n (by omega) (fs_n (by omega) rfl)))) s1931_ (fun _ => (by first | exact fs_c rfl | exact (fs_n (by omega) (fs_n (by omega) rfl)))) (by first | exact fs_c rfl | exact (fs_n (by omega) (fs_n (by omega) rfl))))) (⟨(rprd_fs (rprd_fs (rprd_fs (rprd_fs (rprd_fs (rprd_fs (rprd_fs (rprd_fs (rprd_fs (rprd_fs (rprd_fs (rprd_fs (rprd_fs (rprd_fs (rprd_fs (rprd_fs (rprd_fs (rprd_fs hps.1 s8_ (by first | exact fs_rg rfl | exact fun r j hj => (fs_n (by omega) (fs_n (by omega) rfl)))) s18_ (by first | exact fs_rg rfl | exact fun r j hj => (fs_n (by omega) (fs_n (by omega) rfl)))) s28_ (by first | exact fs_rg rfl | exact fun r j hj => (fs_n (by omega) (fs_n (by omega) rfl)))) s38_ (by first | exact fs_rg rfl | exact fun r j hj => (fs_n (by omega) (fs_n (by omega) rfl)))) s50_ (by first | exact fs_rg rfl | exact fun r j hj => (fs_n (by omega) rfl))) s59_ (by first | exact fs_rg rfl | exact fun r j hj => (fs_n (by omega) rfl))) s69_ (by first | exact fs_rg rfl | exact fun r j hj => (fs_n (by omega) (fs_n (by omega) rfl)))) s79_ (by first | exact fs_rg rfl | exact fun r j hj => (fs_n (by omega) (fs_n (by omega) rfl)))) s89_ (by first | exact fs_rg rfl | exact fun r j hj => (fs_n (by omega) (fs_n (by omega) rfl)))) s101_ (by first | exact fs_rg rfl | exact fun r j hj => (fs_n (by omega) rfl))) s1079_ (by first | exact fs_rg rfl | exact fun r j hj => (fs_n (by omega) rfl))) s1088_ (by first | exact fs_rg rfl | exact fun r j hj => (fs_n (by omega) rfl))) s1098_ (by first | exact fs_rg rfl | exact fun r j hj => (fs_n (by omega) (fs_n (by omega) rfl)))) s1108_ (by first | exact fs_rg rfl | exact fun r j hj => (fs_n (by omega) (fs_n (by omega) rfl)))) s1118_ (by first | exact fs_rg rfl | exact fun r j hj => (fs_n (by omega) (fs_n (by omega) rfl)))) s1778_ (by first | exact fs_rg rfl | exact fun r j hj => (fs_n (by omega) (fs_n (by omega) rfl)))) s1921_ (by first | exact fs_rg rfl | exact fun r j hj => (fs_n (by omega) (fs_n (by omega) rfl)))) s1931_ (by first | exact fs_rg rfl | exact fun r j hj => (fs_n (by omega) (fs_n (by omega) rfl)))), hps.2⟩)) (fun _ _ h => False.elim h) ?_
    have b1936_ : 0 ≤ F1929_ 344 9 ∧ F1929_ 344 9 ≤ 5 := gi_g g1930_ rfl
    rintro A1_ ⟨F1939_, hA_, g1940_, s1941_, c1937_, c1938_⟩
    subst hA_
    have g1942_ : fs [(344, 344, 5, 5), (344, 344, 9, 10), (344, 344, 33, 33), (344, 344, 36, 36), (344, 344, 64, 64), (358, 358, 0, 100000), (360, 366, 0, 100000)] F F1939_ := fs_tr g1932_ s1941_ rfl
    have rk1943_ : rk K F1939_ := rk_fs rk1933_ s1941_ (fs_rg rfl) rfl
    refine ga_aload_n (v := .ref 344) hm_184 rfl rfl rfl ?_
    refine fl_bipush hm_184 rfl rfl ?_
    have b1944_ : 0 ≤ F1939_ 344 5 ∧ F1939_ 344 5 ≤ 600 := gi_g g1940_ rfl
    refine gVv (nY := 2) (F := 2) (L := 41) (As := [.int (Int32.ofInt 41)]) (b := 344) (rest := []) hm_184 rfl hm_51 rfl rfl (fl_ob sc_344) rfl rfl rfl rfl rfl (by omega) (by omega) (mc_51s hG F1939_ X g1940_ (K) (41) (1) hgK rk1943_ hkt (⟨by omega, by omega⟩) (by omega) (by omega)) (fun _ _ h => False.elim h) ?_
    have b1946_ : 0 ≤ F1939_ 344 9 ∧ F1939_ 344 9 ≤ 5 := gi_g g1940_ rfl
    rintro A1_ ⟨F1949_, hA_, g1950_, s1951_, c1947_, c1948_⟩
    subst hA_
    have g1952_ : fs [(344, 344, 5, 5), (344, 344, 9, 10), (344, 344, 33, 33), (344, 344, 36, 36), (344, 344, 64, 64), (358, 358, 0, 100000), (360, 366, 0, 100000)] F F1949_ := fs_tr g1942_ s1951_ rfl
    have rk1953_ : rk K F1949_ := rk_fs rk1943_ s1951_ (fs_rg rfl) rfl
    refine ga_aload_n (v := .ref 344) hm_184 rfl rfl rfl ?_
    refine fl_bipush hm_184 rfl rfl ?_
    have b1954_ : 0 ≤ F1949_ 344 5 ∧ F1949_ 344 5 ≤ 600 := gi_g g1950_ rfl
    refine gVv (nY := 2) (F := 2) (L := 41) (As := [.int (Int32.ofInt 40)]) (b := 344) (rest := []) hm_184 rfl hm_51 rfl rfl (fl_ob sc_344) rfl rfl rfl rfl rfl (by omega) (by omega) (mc_51s hG F1949_ X g1950_ (K) (40) (0) hgK rk1953_ hkt (⟨by omega, by omega⟩) (by omega) (by omega)) (fun _ _ h => False.elim h) ?_
    have b1956_ : 0 ≤ F1949_ 344 9 ∧ F1949_ 344 9 ≤ 5 := gi_g g1950_ rfl
    rintro A1_ ⟨F1959_, hA_, g1960_, s1961_, c1957_, c1958_⟩
    subst hA_
    have g1962_ : fs [(344, 344, 5, 5), (344, 344, 9, 10), (344, 344, 33, 33), (344, 344, 36, 36), (344, 344, 64, 64), (358, 358, 0, 100000), (360, 366, 0, 100000)] F F1959_ := fs_tr g1952_ s1961_ rfl
    have rk1963_ : rk K F1959_ := rk_fs rk1953_ s1961_ (fs_rg rfl) rfl
    refine ga_aload_n (v := .ref 344) hm_184 rfl rfl rfl ?_
    refine fl_bipush hm_184 rfl rfl ?_
    have b1964_ : 0 ≤ F1959_ 344 5 ∧ F1959_ 344 5 ≤ 600 := gi_g g1960_ rfl
    refine gVv (nY := 2) (F := 2) (L := 44) (As := [.int (Int32.ofInt 17)]) (b := 344) (rest := []) hm_184 rfl hm_55 rfl rfl (fl_ob sc_344) rfl rfl rfl rfl rfl (by omega) (by omega) (mc_55s hG F1959_ X g1960_ (K) (17) ([58, 103, 111, 97, 108]) hgK rk1963_ hkt (⟨by omega, by omega⟩) (⟨by omega, by omega⟩) (by decide) (kw_17 rk1963_)) (fun _ _ h => False.elim h) ?_
    have b1966_ : 0 ≤ F1959_ 344 9 ∧ F1959_ 344 9 ≤ 5 := gi_g g1960_ rfl
    rintro A1_ ⟨F1969_, hA_, g1970_, s1971_, c1967_, c1968_⟩
    subst hA_
    have g1972_ : fs [(344, 344, 5, 5), (344, 344, 9, 10), (344, 344, 33, 33), (344, 344, 36, 36), (344, 344, 64, 64), (358, 358, 0, 100000), (360, 366, 0, 100000)] F F1969_ := fs_tr g1962_ s1971_ rfl
    have rk1973_ : rk K F1969_ := rk_fs rk1963_ s1971_ (fs_rg rfl) rfl
    refine ga_aload_n (v := .ref 344) hm_184 rfl rfl rfl ?_
    refine ga_getr (b := 358) hm_184 rfl sc_344 rfl ?_
    refine fl_iconst hm_184 rfl ?_
    refine fl_iconst hm_184 rfl ?_
    refine fl_iast (z := 5) (v := 0) hm_184 rfl sc_358 (by omega) (by omega) (by omega) ?_
    refine ga_aload_n (v := .ref 344) hm_184 rfl rfl rfl ?_
    refine fl_iconst hm_184 rfl ?_
    refine fl_bipush hm_184 rfl rfl ?_
    obtain ⟨F1974_, q1975_⟩ : ∃ Fq_, Fq_ = (fl_u F1969_ 358 (5 : Int).toNat 0) := ⟨_, rfl⟩
    rw [← q1975_]
    have g1976_ : gi F1974_ := by rw [q1975_]; exact gi_u (g1970_) rfl (by omega) (by omega)
    have g1977_ : fs [(344, 344, 5, 5), (344, 344, 9, 10), (344, 344, 33, 33), (344, 344, 36, 36), (344, 344, 64, 64), (358, 358, 0, 100000), (360, 366, 0, 100000)] F F1974_ := by rw [q1975_]; exact fs_u (g1972_) rfl
    have rk1978_ : rk K F1974_ := by rw [q1975_]; exact rk_u (rk1973_) (by first | decide | exact nc_ rfl | omega) (by first | decide | exact nc_ rfl | omega)
    have e1979_ : F1974_ 344 5 = F1969_ 344 5 := by rw [q1975_]; exact fl_u_ne (by first | exact nc_ rfl | decide | omega)
    have b1980_ : 0 ≤ F1969_ 344 5 ∧ F1969_ 344 5 ≤ 600 := gi_g g1970_ rfl
    refine gVv (nY := 4) (F := 6) (L := 142) (As := [.int (Int32.ofInt 5), .int (Int32.ofInt 40)]) (b := 344) (rest := []) hm_184 rfl hm_175 rfl rfl (fl_ob sc_344) rfl rfl rfl rfl rfl (by omega) (by omega) (mc_175s hG F1974_ X g1976_ (K) (5) (40) (2) ([]) ([]) (pl) (ps) hgK rk1978_ hkt (⟨by omega, by omega⟩) ((by rw [q1975_]; exact (trm_u (trm_fs (trm_fs (trm_fs (trm_fs (trm_fs (trm_fs (trm_fs (trm_fs (trm_fs (trm_fs (trm_fs (trm_fs (trm_fs (trm_fs (trm_fs (trm_fs (trm_fs (trm_fs (trm_fs (trm_fs (trm_fs (trm_fs (tr5_0 h33) s8_ (by first | exact fs_rg rfl | exact fun r j hj => (fs_n (by omega) (fs_n (by omega) rfl)))) s18_ (by first | exact fs_rg rfl | exact fun r j hj => (fs_n (by omega) (fs_n (by omega) rfl)))) s28_ (by first | exact fs_rg rfl | exact fun r j hj => (fs_n (by omega) (fs_n (by omega) rfl)))) s38_ (by first | exact fs_rg rfl | exact fun r j hj => (fs_n (by omega) (fs_n (by omega) rfl)))) s50_ (by first | exact fs_rg rfl | exact fun r j hj => (fs_n (by omega) rfl))) s59_ (by first | exact fs_rg rfl | exact fun r j hj => (fs_n (by omega) rfl))) s69_ (by first | exact fs_rg rfl | exact fun r j hj => (fs_n (by omega) (fs_n (by omega) rfl)))) s79_ (by first | exact fs_rg rfl | exact fun r j hj => (fs_n (by omega) (fs_n (by omega) rfl)))) s89_ (by first | exact fs_rg rfl | exact fun r j hj => (fs_n (by omega) (fs_n (by omega) rfl)))) s101_ (by first | exact fs_rg rfl | exact fun r j hj => (fs_n (by omega) rfl))) s1079_ (by first | exact fs_rg rfl | exact fun r j hj => (fs_n (by omega) rfl))) s1088_ (by first | exact fs_rg rfl | exact fun r j hj => (fs_n (by omega) rfl))) s1098_ (by first | exact fs_rg rfl | exact fun r j hj => (fs_n (by omega) (fs_n (by omega) rfl)))) s1108_ (by first | exact fs_rg rfl | exact fun r j hj => (fs_n (by omega) (fs_n (by omega) rfl)))) s1118_ (by first | exact fs_rg rfl | exact fun r j hj => (fs_n (by omega) (fs_n (by omega) rfl)))) s1778_ (by first | exact fs_rg rfl | exact fun r j hj => (fs_n (by omega) (fs_n (by omega) rfl)))) s1921_ (by first | exact fs_rg rfl | exact fun r j hj => (fs_n (by omega) (fs_n (by omega) rfl)))) s1931_ (by first | exact fs_rg rfl | exact fun r j hj => (fs_n (by omega) (fs_n (by omega) rfl)))) s1941_ (by first | exact fs_rg rfl | exact fun r j hj => (fs_n (by omega) (fs_n (by omega) (fs_n (by omega) (fs_n (by omega) rfl)))))) s1951_ (by first | exact fs_rg rfl | exact fun r j hj => (fs_n (by omega) (fs_n (by omega) rfl)))) s1961_ (by first | exact fs_rg rfl | exact fun r j hj => (fs_n (by omega) (fs_n (by omega) rfl)))) s1971_ (by first | exact fs_rg rfl | exact fun r j hj => (fs_n (by omega) (fs_n (by omega) rfl)))) (by first | decide | exact nc_ rfl | omega)))) (rfl) (⟨by omega, by omega⟩) ((by rw [q1975_]; exact (rpn_u (rpn_fs (rpn_fs (rpn_fs (rpn_fs (rpn_fs (rpn_fs (rpn_fs (rpn_fs (rpn_fs (rpn_fs (rpn_fs (rpn_fs (rpn_fs (rpn_fs (rpn_fs (rpn_fs (rpn_fs (rpn_fs (rpn_fs (rpn_fs (rpn_fs (rpn_fs hpl s8_ (fun _ => (by first | exact fs_c rfl | exact (fs_n (by omega) (fs_n (by omega) rfl)))) (by first | exact fs_c rfl | exact (fs_n (by omega) (fs_n (by omega) rfl)))) s18_ (fun _ => (by first | exact fs_c rfl | exact (fs_n (by omega) (fs_n (by omega) rfl)))) (by first | exact fs_c rfl | exact (fs_n (by omega) (fs_n (by omega) rfl)))) s28_ (fun _ => (by first | exact fs_c rfl | exact (fs_n (by omega) (fs_n (by omega) rfl)))) (by first | exact fs_c rfl | exact (fs_n (by omega) (fs_n (by omega) rfl)))) s38_ (fun _ => (by first | exact fs_c rfl | exact (fs_n (by omega) (fs_n (by omega) rfl)))) (by first | exact fs_c rfl | exact (fs_n (by omega) (fs_n (by omega) rfl)))) s50_ (fun _ => (by first | exact fs_c rfl | exact (fs_n (by omega) rfl))) (by first | exact fs_c rfl | exact (fs_n (by omega) rfl))) s59_ (fun _ => (by first | exact fs_c rfl | exact (fs_n (by omega) rfl))) (by first | exact fs_c rfl | exact (fs_n (by omega) rfl))) s69_ (fun _ => (by first | exact fs_c rfl | exact (fs_n (by omega) (fs_n (by omega) rfl)))) (by first | exact fs_c rfl | exact (fs_n (by omega) (fs_n (by omega) rfl)))) s79_ (fun _ => (by first | exact fs_c rfl | exact (fs_n (by omega) (fs_n (by omega) rfl)))) (by first | exact fs_c rfl | exact (fs_n (by omega) (fs_n (by omega) rfl)))) s89_ (fun _ => (by first | exact fs_c rfl | exact (fs_n (by omega) (fs_n (by omega) rfl)))) (by first | exact fs_c rfl | exact (fs_n (by omega) (fs_n (by omega) rfl)))) s101_ (fun _ => (by first | exact fs_c rfl | exact (fs_n (by omega) rfl))) (by first | exact fs_c rfl | exact (fs_n (by omega) rfl))) s1079_ (fun _ => (by first | exact fs_c rfl | exact (fs_n (by omega) rfl))) (by first | exact fs_c rfl | exact (fs_n (by omega) rfl))) s1088_ (fun _ => (by first | exact fs_c rfl | exact (fs_n (by omega) rfl))) (by first | exact fs_c rfl | exact (fs_n (by omega) rfl))) s1098_ (fun _ => (by first | exact fs_c rfl | exact (fs_n (by omega) (fs_n (by omega) rfl)))) (by first | exact fs_c rfl | exact (fs_n (by omega) (fs_n (by omega) rfl)))) s1108_ (fun _ => (by first | exact fs_c rfl | exact (fs_n (by omega) (fs_n (by omega) rfl)))) (by first | exact fs_c rfl | exact (fs_n (by omega) (fs_n (by omega) rfl)))) s1118_ (fun _ => (by first | exact fs_c rfl | exact (fs_n (by omega) (fs_n (by omega) rfl)))) (by first | exact fs_c rfl | exact (fs_n (by omega) (fs_n (by omega) rfl)))) s1778_ (fun _ => (by first | exact fs_c rfl | exact (fs_n (by omega) (fs_n (by omega) rfl)))) (by first | exact fs_c rfl | exact (fs_n (by omega) (fs_n (by omega) rfl)))) s1921_ (fun _ => (by first | exact fs_c rfl | exact (fs_n (by omega) (fs_n (by omega) rfl)))) (by first | exact fs_c rfl | exact (fs_n (by omega) (fs_n (by omega) rfl)))) s1931_ (fun _ => (by first | exact fs_c rfl | exact (fs_n (by omega) (fs_n (by omega) rfl)))) (by first | exact fs_c rfl | exact (fs_n (by omega) (fs_n (by omega) rfl)))) s1941_ (fun _ => (by first | exact fs_c rfl | exact (fs_n (by omega) (fs_n (by omega) (fs_n (by omega) (fs_n (by omega) rfl)))))) (by first | exact fs_c rfl | exact (fs_n (by omega) (fs_n (by omega) (fs_n (by omega) (fs_n (by omega) rfl)))))) s1951_ (fun _ => (by first | exact fs_c rfl | exact (fs_n (by omega) (fs_n (by omega) rfl)))) (by first | exact fs_c rfl | exact (fs_n (by omega) (fs_n (by omega) rfl)))) s1961_ (fun _ => (by first | exact fs_c rfl | exact (fs_n (by omega) (fs_n (by omega) rfl)))) (by first | exact fs_c rfl | exact (fs_n (by omega) (fs_n (by omega) rfl)))) s1971_ (fun _ => (by first | exact fs_c rfl | exact (fs_n (by omega) (fs_n (by omega) rfl)))) (by first | exact fs_c rfl | exact (fs_n (by omega) (fs_n (by omega) rfl)))) (by first | decide | exact nc_ rfl | omega) (by first | decide | exact nc_ rfl | omega)))) (⟨(by rw [q1975_]; exact (rprd_u (rprd_fs (rprd_fs (rprd_fs (rprd_fs (rprd_fs (rprd_fs (rprd_fs (rprd_fs (rprd_fs (rprd_fs (rprd_fs (rprd_fs (rprd_fs (rprd_fs (rprd_fs (rprd_fs (rprd_fs (rprd_fs (rprd_fs (rprd_fs (rprd_fs (rprd_fs hps.1 s8_ (by first | exact fs_rg rfl | exact fun r j hj => (fs_n (by omega) (fs_n (by omega) rfl)))) s18_ (by first | exact fs_rg rfl | exact fun r j hj => (fs_n (by omega) (fs_n (by omega) rfl)))) s28_ (by first | exact fs_rg rfl | exact fun r j hj => (fs_n (by omega) (fs_n (by omega) rfl)))) s38_ (by first | exact fs_rg rfl | exact fun r j hj => (fs_n (by omega) (fs_n (by omega) rfl)))) s50_ (by first | exact fs_rg rfl | exact fun r j hj => (fs_n (by omega) rfl))) s59_ (by first | exact fs_rg rfl | exact fun r j hj => (fs_n (by omega) rfl))) s69_ (by first | exact fs_rg rfl | exact fun r j hj => (fs_n (by omega) (fs_n (by omega) rfl)))) s79_ (by first | exact fs_rg rfl | exact fun r j hj => (fs_n (by omega) (fs_n (by omega) rfl)))) s89_ (by first | exact fs_rg rfl | exact fun r j hj => (fs_n (by omega) (fs_n (by omega) rfl)))) s101_ (by first | exact fs_rg rfl | exact fun r j hj => (fs_n (by omega) rfl))) s1079_ (by first | exact fs_rg rfl | exact fun r j hj => (fs_n (by omega) rfl))) s1088_ (by first | exact fs_rg rfl | exact fun r j hj => (fs_n (by omega) rfl))) s1098_ (by first | exact fs_rg rfl | exact fun r j hj => (fs_n (by omega) (fs_n (by omega) rfl)))) s1108_ (by first | exact fs_rg rfl | exact fun r j hj => (fs_n (by omega) (fs_n (by omega) rfl)))) s1118_ (by first | exact fs_rg rfl | exact fun r j hj => (fs_n (by omega) (fs_n (by omega) rfl)))) s1778_ (by first | exact fs_rg rfl | exact fun r j hj => (fs_n (by omega) (fs_n (by omega) rfl)))) s1921_ (by first | exact fs_rg rfl | exact fun r j hj => (fs_n (by omega) (fs_n (by omega) rfl)))) s1931_ (by first | exact fs_rg rfl | exact fun r j hj => (fs_n (by omega) (fs_n (by omega) rfl)))) s1941_ (by first | exact fs_rg rfl | exact fun r j hj => (fs_n (by omega) (fs_n (by omega) (fs_n (by omega) (fs_n (by omega) rfl)))))) s1951_ (by first | exact fs_rg rfl | exact fun r j hj => (fs_n (by omega) (fs_n (by omega) rfl)))) s1961_ (by first | exact fs_rg rfl | exact fun r j hj => (fs_n (by omega) (fs_n (by omega) rfl)))) s1971_ (by first | exact fs_rg rfl | exact fun r j hj => (fs_n (by omega) (fs_n (by omega) rfl)))) (by first | decide | exact nc_ rfl | omega))), hps.2⟩) (⟨by omega, by omega⟩) (Or.inr (by omega)) (by rw [q1975_]; exact fl_u_eq)) (fun _ _ h => False.elim h) ?_
    have e1982_ : F1974_ 344 9 = F1969_ 344 9 := by rw [q1975_]; exact fl_u_ne (by first | exact nc_ rfl | decide | omega)
    have b1983_ : 0 ≤ F1969_ 344 9 ∧ F1969_ 344 9 ≤ 5 := gi_g g1970_ rfl
    rintro A1_ ⟨F1986_, hA_, g1987_, s1988_, c1984_, c1985_⟩
    subst hA_
    have g1989_ : fs [(344, 344, 5, 5), (344, 344, 9, 10), (344, 344, 33, 33), (344, 344, 36, 36), (344, 344, 64, 64), (358, 358, 0, 100000), (360, 366, 0, 100000)] F F1986_ := fs_tr g1977_ s1988_ rfl
    have rk1990_ : rk K F1986_ := rk_fs rk1978_ s1988_ (fs_rg rfl) rfl
    try simp only [e1982_] at c1984_
    refine ga_aload_n (v := .ref 344) hm_184 rfl rfl rfl ?_
    refine fl_bipush hm_184 rfl rfl ?_
    have b1991_ : 0 ≤ F1986_ 344 5 ∧ F1986_ 344 5 ≤ 600 := gi_g g1987_ rfl
    refine gVv (nY := 2) (F := 2) (L := 41) (As := [.int (Int32.ofInt 41)]) (b := 344) (rest := []) hm_184 rfl hm_51 rfl rfl (fl_ob sc_344) rfl rfl rfl rfl rfl (by omega) (by omega) (mc_51s hG F1986_ X g1987_ (K) (41) (1) hgK rk1990_ hkt (⟨by omega, by omega⟩) (by omega) (by omega)) (fun _ _ h => False.elim h) ?_
    have b1993_ : 0 ≤ F1986_ 344 9 ∧ F1986_ 344 9 ≤ 5 := gi_g g1987_ rfl
    rintro A1_ ⟨F1996_, hA_, g1997_, s1998_, c1994_, c1995_⟩
    subst hA_
    have g1999_ : fs [(344, 344, 5, 5), (344, 344, 9, 10), (344, 344, 33, 33), (344, 344, 36, 36), (344, 344, 64, 64), (358, 358, 0, 100000), (360, 366, 0, 100000)] F F1996_ := fs_tr g1989_ s1998_ rfl
    have rk2000_ : rk K F1996_ := rk_fs rk1990_ s1998_ (fs_rg rfl) rfl
    refine ga_aload_n (v := .ref 344) hm_184 rfl rfl rfl ?_
    refine fl_bipush hm_184 rfl rfl ?_
    have b2001_ : 0 ≤ F1996_ 344 5 ∧ F1996_ 344 5 ≤ 600 := gi_g g1997_ rfl
    refine gVv (nY := 2) (F := 2) (L := 41) (As := [.int (Int32.ofInt 41)]) (b := 344) (rest := []) hm_184 rfl hm_51 rfl rfl (fl_ob sc_344) rfl rfl rfl rfl rfl (by omega) (by omega) (mc_51s hG F1996_ X g1997_ (K) (41) (1) hgK rk2000_ hkt (⟨by omega, by omega⟩) (by omega) (by omega)) (fun _ _ h => False.elim h) ?_
    have b2003_ : 0 ≤ F1996_ 344 9 ∧ F1996_ 344 9 ≤ 5 := gi_g g1997_ rfl
    rintro A1_ ⟨F2006_, hA_, g2007_, s2008_, c2004_, c2005_⟩
    subst hA_
    have g2009_ : fs [(344, 344, 5, 5), (344, 344, 9, 10), (344, 344, 33, 33), (344, 344, 36, 36), (344, 344, 64, 64), (358, 358, 0, 100000), (360, 366, 0, 100000)] F F2006_ := fs_tr g1999_ s2008_ rfl
    have rk2010_ : rk K F2006_ := rk_fs rk2000_ s2008_ (fs_rg rfl) rfl
    refine ga_aload_n (v := .ref 344) hm_184 rfl rfl rfl ?_
    refine gIi (nY := 1) (F := 0) (L := 0) (As := []) (b := 344) (rest := []) hm_184 rfl hm_59 rfl rfl (fl_ob sc_344) rfl rfl rfl rfl rfl (by omega) (by omega) ?_
    intro f2011_ l2012_ h2013_ h2014_
    show fl_R xi_ms 59 f2011_ l2012_ 0 [(0, .ref 344)] [] _ _
    refine ga_aload_n (v := .ref 344) hm_59 rfl rfl rfl ?_
    have b2015_ : 0 ≤ F2006_ 344 9 ∧ F2006_ 344 9 ≤ 5 := gi_g g2007_ rfl
    refine ga_geti (z := F2006_ 344 9) hm_59 rfl sc_344 rfl (rfl) ?_
    refine fl_if_le (a := F2006_ 344 9) hm_59 rfl ⟨by omega, by omega⟩ (fun h2016_ => ?_) (fun h2017_ => ?_)
    ·
      refine fl_iconst hm_59 rfl ?_
      refine gr_i hm_59 rfl rfl (ga_nb (by omega)) ?_
      clear h2013_ h2014_ f2011_ l2012_
      refine fl_if_ne hm_184 rfl ⟨by omega, by omega⟩ (fun h => absurd h (by omega)) (fun _ => ?_)
      refine ga_aload_n (v := .ref 344) hm_184 rfl rfl rfl ?_
      have b2018_ : 0 ≤ F2006_ 344 5 ∧ F2006_ 344 5 ≤ 600 := gi_g g2007_ rfl
      refine ga_geti (z := F2006_ 344 5) hm_184 rfl sc_344 rfl (rfl) ?_
      refine ga_aload_n (v := .ref 344) hm_184 rfl rfl rfl ?_
      have e2019_ : F2006_ 344 4 = K 1 6 - 1 := rk2010_.2.1
      refine ga_geti (z := K 1 6 - 1) hm_184 rfl sc_344 rfl (e2019_) ?_
      refine fl_icmp_ge (a := F2006_ 344 5) (b := K 1 6 - 1) hm_184 rfl ⟨by omega, by omega⟩ ⟨by omega, by omega⟩ (fun h2020_ => ?_) (fun h2021_ => ?_)
      ·
        refine gr_v hm_184 rfl rfl ?_
        exact ⟨F2006_, rfl, g2007_, g2009_, (⟨by omega, by omega⟩)⟩
      refine ga_aload_n (v := .ref 344) hm_184 rfl rfl rfl ?_
      refine fl_iconst hm_184 rfl ?_
      refine gVv (nY := 2) (F := 0) (L := 0) (As := [.int (Int32.ofInt 1)]) (b := 344) (rest := []) hm_184 rfl hm_54 rfl rfl (fl_ob sc_344) rfl rfl rfl rfl rfl (by omega) (by omega) (mc_54 hG F2006_ X g2007_ (K) (1) hgK rk2010_ hkt (⟨by omega, by omega⟩) (⟨by omega, by omega⟩)) (fun _ _ h => False.elim h) ?_
      have b2023_ : 0 ≤ F2006_ 344 10 ∧ F2006_ 344 10 ≤ 600 := gi_g g2007_ rfl
      rintro A1_ ⟨F2027_, hA_, g2028_, s2029_, c2024_, c2025_, c2026_⟩
      subst hA_
      have g2030_ : fs [(344, 344, 5, 5), (344, 344, 9, 10), (344, 344, 33, 33), (344, 344, 36, 36), (344, 344, 64, 64), (358, 358, 0, 100000), (360, 366, 0, 100000)] F F2027_ := fs_tr g2009_ s2029_ rfl
      have rk2031_ : rk K F2027_ := rk_fs rk2010_ s2029_ (fs_rg rfl) rfl
      have c2025_s := c2025_.1 (by omega)
      clear c2025_
      refine gr_v hm_184 rfl rfl ?_
      have e2032_ : F2027_ 344 5 = F2006_ 344 5 := (s2029_ 344 5 rfl).trans (rfl)
      exact ⟨F2027_, rfl, g2028_, g2030_, (⟨by omega, by omega⟩)⟩
    refine fl_iconst hm_59 rfl ?_
    refine fl_goto hm_59 rfl ?_
    refine gr_i hm_59 rfl rfl (ga_nb (by omega)) ?_
    clear h2013_ h2014_ f2011_ l2012_
    refine fl_if_ne hm_184 rfl ⟨by omega, by omega⟩ (fun _ => ?_) (fun h => absurd (by omega) h)
    refine gr_v hm_184 rfl rfl ?_
    have b2033_ : 0 ≤ F2006_ 344 5 ∧ F2006_ 344 5 ≤ 600 := gi_g g2007_ rfl
    exact ⟨F2006_, rfl, g2007_, g2009_, (⟨by omega, by omega⟩)⟩
  refine fl_iconst hm_59 rfl ?_
  refine fl_goto hm_59 rfl ?_
  refine gr_i hm_59 rfl rfl (ga_nb (by omega)) ?_
  clear h106_ h107_ f104_ l105_
  refine fl_if_ne hm_184 rfl ⟨by omega, by omega⟩ (fun _ => ?_) (fun h => absurd (by omega) h)
  refine ga_aload_n (v := .ref 344) hm_184 rfl rfl rfl ?_
  have e2034_ : F99_ 344 5 = F87_ 344 5 := (s101_ 344 5 rfl).trans (rfl)
  refine gVv (nY := 1) (F := 1) (L := 20) (As := []) (b := 344) (rest := []) hm_184 rfl hm_61 rfl rfl (fl_ob sc_344) rfl rfl rfl rfl rfl (by omega) (by omega) (mc_61s hG F99_ X g100_ (K) hgK rk103_ hkt (⟨by omega, by omega⟩) (by omega)) (fun _ _ h => False.elim h) ?_
  rintro A1_ ⟨F2037_, hA_, g2038_, s2039_, c2036_⟩
  subst hA_
  have g2040_ : fs [(344, 344, 5, 5), (344, 344, 9, 10), (344, 344, 33, 33), (344, 344, 36, 36), (344, 344, 64, 64), (358, 358, 0, 100000), (360, 366, 0, 100000)] F F2037_ := fs_tr g102_ s2039_ rfl
  have rk2041_ : rk K F2037_ := rk_fs rk103_ s2039_ (fs_rg rfl) rfl
  refine ga_aload_n (v := .ref 344) hm_184 rfl rfl rfl ?_
  refine fl_bipush hm_184 rfl rfl ?_
  have b2042_ : 0 ≤ F2037_ 344 5 ∧ F2037_ 344 5 ≤ 600 := gi_g g2038_ rfl
  refine gVv (nY := 2) (F := 2) (L := 41) (As := [.int (Int32.ofInt 41)]) (b := 344) (rest := []) hm_184 rfl hm_51 rfl rfl (fl_ob sc_344) rfl rfl rfl rfl rfl (by omega) (by omega) (mc_51s hG F2037_ X g2038_ (K) (41) (1) hgK rk2041_ hkt (⟨by omega, by omega⟩) (by omega) (by omega)) (fun _ _ h => False.elim h) ?_
  have e2044_ : F2037_ 344 9 = F99_ 344 9 := (s2039_ 344 9 rfl).trans (rfl)
  rintro A1_ ⟨F2047_, hA_, g2048_, s2049_, c2045_, c2046_⟩
  subst hA_
  have g2050_ : fs [(344, 344, 5, 5), (344, 344, 9, 10), (344, 344, 33, 33), (344, 344, 36, 36), (344, 344, 64, 64), (358, 358, 0, 100000), (360, 366, 0, 100000)] F F2047_ := fs_tr g2040_ s2049_ rfl
  have rk2051_ : rk K F2047_ := rk_fs rk2041_ s2049_ (fs_rg rfl) rfl
  try simp only [e2044_] at c2045_
  refine ga_aload_n (v := .ref 344) hm_184 rfl rfl rfl ?_
  refine fl_bipush hm_184 rfl rfl ?_
  have b2052_ : 0 ≤ F2047_ 344 5 ∧ F2047_ 344 5 ≤ 600 := gi_g g2048_ rfl
  refine gVv (nY := 2) (F := 2) (L := 41) (As := [.int (Int32.ofInt 40)]) (b := 344) (rest := []) hm_184 rfl hm_51 rfl rfl (fl_ob sc_344) rfl rfl rfl rfl rfl (by omega) (by omega) (mc_51s hG F2047_ X g2048_ (K) (40) (0) hgK rk2051_ hkt (⟨by omega, by omega⟩) (by omega) (by omega)) (fun _ _ h => False.elim h) ?_
  have b2054_ : 0 ≤ F2047_ 344 9 ∧ F2047_ 344 9 ≤ 5 := gi_g g2048_ rfl
  rintro A1_ ⟨F2057_, hA_, g2058_, s2059_, c2055_, c2056_⟩
  subst hA_
  have g2060_ : fs [(344, 344, 5, 5), (344, 344, 9, 10), (344, 344, 33, 33), (344, 344, 36, 36), (344, 344, 64, 64), (358, 358, 0, 100000), (360, 366, 0, 100000)] F F2057_ := fs_tr g2050_ s2059_ rfl
  have rk2061_ : rk K F2057_ := rk_fs rk2051_ s2059_ (fs_rg rfl) rfl
  refine ga_aload_n (v := .ref 344) hm_184 rfl rfl rfl ?_
  refine fl_bipush hm_184 rfl rfl ?_
  have b2062_ : 0 ≤ F2057_ 344 5 ∧ F2057_ 344 5 ≤ 600 := gi_g g2058_ rfl
  refine gVv (nY := 2) (F := 2) (L := 44) (As := [.int (Int32.ofInt 15)]) (b := 344) (rest := []) hm_184 rfl hm_55 rfl rfl (fl_ob sc_344) rfl rfl rfl rfl rfl (by omega) (by omega) (mc_55s hG F2057_ X g2058_ (K) (15) ([58, 111, 98, 106, 101, 99, 116, 115]) hgK rk2061_ hkt (⟨by omega, by omega⟩) (⟨by omega, by omega⟩) (by decide) (kw_15 rk2061_)) (fun _ _ h => False.elim h) ?_
  have b2064_ : 0 ≤ F2057_ 344 9 ∧ F2057_ 344 9 ≤ 5 := gi_g g2058_ rfl
  rintro A1_ ⟨F2067_, hA_, g2068_, s2069_, c2065_, c2066_⟩
  subst hA_
  have g2070_ : fs [(344, 344, 5, 5), (344, 344, 9, 10), (344, 344, 33, 33), (344, 344, 36, 36), (344, 344, 64, 64), (358, 358, 0, 100000), (360, 366, 0, 100000)] F F2067_ := fs_tr g2060_ s2069_ rfl
  have rk2071_ : rk K F2067_ := rk_fs rk2061_ s2069_ (fs_rg rfl) rfl
  have b2072_ : 0 ≤ F2067_ 344 9 ∧ F2067_ 344 9 ≤ 5 := gi_g g2068_ rfl
  by_cases h2073_ : F2067_ 344 9 = 0
  ·
    refine fl_iconst hm_184 rfl ?_
    refine ga_istore_n (lv2 := [(3, .int (Int32.ofInt 1)), (1, .long (Int64.ofInt z93_)), (0, .ref 344)]) hm_184 rfl (Nat.le_of_ble_eq_true rfl) rfl ?_
    have L2075_ : ∀ (n2074_ : Nat) (mo : Int) (l : List Int) (tl : List Int) (F1 : fl_N), (7 - F1 344 33 : Int).toNat = n2074_ → (gi F1) → (fs [(344, 344, 5, 5), (344, 344, 9, 10), (344, 344, 33, 33), (364, 365, 0, 100000)] F2067_ F1) → (F1 344 9 = 0) → (0 ≤ mo ∧ mo ≤ 1) → (0 ≤ F1 344 5 ∧ F1 344 5 ≤ K 1 6 - 1) → (trm F1 5 2 l tl ∧ l.length = tl.length) → fl_R xi_ms 184 fr lo 100 [(3, .int (Int32.ofInt mo)), (1, .long (Int64.ofInt z93_)), (0, .ref 344)] [] (fl_H sh_T G F1 ++ X) (pq_184 G F X K ts pl ps) := by
      intro n2074_
      induction n2074_ using Nat.strongRecOn with
      | ind n2074_ ih2076_ =>
      intro mo l tl F1 hn2077_ hg_F1 hf_F1 hk hmo hp1 ht1
      have g2078_ : fs [(344, 344, 5, 5), (344, 344, 9, 10), (344, 344, 33, 33), (344, 344, 36, 36), (344, 344, 64, 64), (358, 358, 0, 100000), (360, 366, 0, 100000)] F F1 := fs_tr g2070_ hf_F1 rfl
      have rk2079_ : rk K F1 := rk_fs rk2071_ hf_F1 (fs_rg rfl) rfl
      have hP1 := (rkt_p hkt (p := F1 344 5) (by omega) (by omega) hgK).1
      have hb33 : 0 ≤ F1 344 33 ∧ F1 344 33 ≤ 6 := gi_g hg_F1 rfl
      refine ga_iload_n (z := mo) hm_184 rfl rfl ?_
      refine fl_if_eq (a := mo) hm_184 rfl ⟨by omega, by omega⟩ (fun h2080_ => ?_) (fun h2081_ => ?_)
      ·
        refine ga_aload_n (v := .ref 344) hm_184 rfl rfl rfl ?_
        refine fl_bipush hm_184 rfl rfl ?_
        have b2082_ : 0 ≤ F1 344 5 ∧ F1 344 5 ≤ 600 := gi_g hg_F1 rfl
        refine gVv (nY := 2) (F := 2) (L := 41) (As := [.int (Int32.ofInt 41)]) (b := 344) (rest := []) hm_184 rfl hm_51 rfl rfl (fl_ob sc_344) rfl rfl rfl rfl rfl (by omega) (by omega) (mc_51s hG F1 X hg_F1 (K) (41) (1) hgK rk2079_ hkt (⟨by omega, by omega⟩) (by omega) (by omega)) (fun _ _ h => False.elim h) ?_
        have b2084_ : 0 ≤ F1 344 9 ∧ F1 344 9 ≤ 5 := gi_g hg_F1 rfl
        rintro A1_ ⟨F2087_, hA_, g2088_, s2089_, c2085_, c2086_⟩
        subst hA_
        have g2090_ : fs [(344, 344, 5, 5), (344, 344, 9, 10), (344, 344, 33, 33), (344, 344, 36, 36), (344, 344, 64, 64), (358, 358, 0, 100000), (360, 366, 0, 100000)] F F2087_ := fs_tr g2078_ s2089_ rfl
        have rk2091_ : rk K F2087_ := rk_fs rk2079_ s2089_ (fs_rg rfl) rfl
        refine ga_aload_n (v := .ref 344) hm_184 rfl rfl rfl ?_
        refine gIi (nY := 1) (F := 0) (L := 0) (As := []) (b := 344) (rest := []) hm_184 rfl hm_59 rfl rfl (fl_ob sc_344) rfl rfl rfl rfl rfl (by omega) (by omega) ?_
        intro f2092_ l2093_ h2094_ h2095_
        show fl_R xi_ms 59 f2092_ l2093_ 0 [(0, .ref 344)] [] _ _
        refine ga_aload_n (v := .ref 344) hm_59 rfl rfl rfl ?_
        have b2096_ : 0 ≤ F2087_ 344 9 ∧ F2087_ 344 9 ≤ 5 := gi_g g2088_ rfl
        refine ga_geti (z := F2087_ 344 9) hm_59 rfl sc_344 rfl (rfl) ?_
        refine fl_if_le (a := F2087_ 344 9) hm_59 rfl ⟨by omega, by omega⟩ (fun h2097_ => ?_) (fun h2098_ => ?_)
        ·
          refine fl_iconst hm_59 rfl ?_
          refine gr_i hm_59 rfl rfl (ga_nb (by omega)) ?_
          clear h2094_ h2095_ f2092_ l2093_
          refine fl_if_ne hm_184 rfl ⟨by omega, by omega⟩ (fun h => absurd h (by omega)) (fun _ => ?_)
          refine ga_aload_n (v := .ref 344) hm_184 rfl rfl rfl ?_
          refine gVv (nY := 6) (F := 1) (L := 22) (As := []) (b := 344) (rest := []) hm_184 rfl hm_171 rfl rfl (fl_ob sc_344) rfl rfl rfl rfl rfl (by omega) (by omega) (mc_171 hG F2087_ X g2088_) (fun _ _ h => False.elim h) ?_
          rintro A1_ ⟨F2100_, hA_, g2101_, s2102_⟩
          subst hA_
          have g2103_ : fs [(344, 344, 5, 5), (344, 344, 9, 10), (344, 344, 33, 33), (344, 344, 36, 36), (344, 344, 64, 64), (358, 358, 0, 100000), (360, 366, 0, 100000)] F F2100_ := fs_tr g2090_ s2102_ rfl
          have rk2104_ : rk K F2100_ := rk_fs rk2091_ s2102_ (fs_rg rfl) rfl
          refine ga_aload_n (v := .ref 344) hm_184 rfl rfl rfl ?_
          refine fl_bipush hm_184 rfl rfl ?_
          have e2105_ : F2100_ 344 5 = F2087_ 344 5 := (s2102_ 344 5 rfl).trans (rfl)
          have b2106_ : 0 ≤ F2087_ 344 5 ∧ F2087_ 344 5 ≤ 600 := gi_g g2088_ rfl
          refine gVv (nY := 2) (F := 2) (L := 41) (As := [.int (Int32.ofInt 40)]) (b := 344) (rest := []) hm_184 rfl hm_51 rfl rfl (fl_ob sc_344) rfl rfl rfl rfl rfl (by omega) (by omega) (mc_51s hG F2100_ X g2101_ (K) (40) (0) hgK rk2104_ hkt (⟨by omega, by omega⟩) (by omega) (by omega)) (fun _ _ h => False.elim h) ?_
          have e2108_ : F2100_ 344 9 = F2087_ 344 9 := (s2102_ 344 9 rfl).trans (rfl)
          rintro A1_ ⟨F2111_, hA_, g2112_, s2113_, c2109_, c2110_⟩
          subst hA_
          have g2114_ : fs [(344, 344, 5, 5), (344, 344, 9, 10), (344, 344, 33, 33), (344, 344, 36, 36), (344, 344, 64, 64), (358, 358, 0, 100000), (360, 366, 0, 100000)] F F2111_ := fs_tr g2103_ s2113_ rfl
          have rk2115_ : rk K F2111_ := rk_fs rk2104_ s2113_ (fs_rg rfl) rfl
          try simp only [e2108_] at c2109_
          refine ga_aload_n (v := .ref 344) hm_184 rfl rfl rfl ?_
          refine fl_bipush hm_184 rfl rfl ?_
          have b2116_ : 0 ≤ F2111_ 344 5 ∧ F2111_ 344 5 ≤ 600 := gi_g g2112_ rfl
          refine gVv (nY := 2) (F := 2) (L := 44) (As := [.int (Int32.ofInt 16)]) (b := 344) (rest := []) hm_184 rfl hm_55 rfl rfl (fl_ob sc_344) rfl rfl rfl rfl rfl (by omega) (by omega) (mc_55s hG F2111_ X g2112_ (K) (16) ([58, 105, 110, 105, 116]) hgK rk2115_ hkt (⟨by omega, by omega⟩) (⟨by omega, by omega⟩) (by decide) (kw_16 rk2115_)) (fun _ _ h => False.elim h) ?_
          have b2118_ : 0 ≤ F2111_ 344 9 ∧ F2111_ 344 9 ≤ 5 := gi_g g2112_ rfl
          rintro A1_ ⟨F2121_, hA_, g2122_, s2123_, c2119_, c2120_⟩
          subst hA_
          have g2124_ : fs [(344, 344, 5, 5), (344, 344, 9, 10), (344, 344, 33, 33), (344, 344, 36, 36), (344, 344, 64, 64), (358, 358, 0, 100000), (360, 366, 0, 100000)] F F2121_ := fs_tr g2114_ s2123_ rfl
          have rk2125_ : rk K F2121_ := rk_fs rk2115_ s2123_ (fs_rg rfl) rfl
          refine ga_aload_n (v := .ref 344) hm_184 rfl rfl rfl ?_
          have b2126_ : 0 ≤ F2121_ 344 5 ∧ F2121_ 344 5 ≤ 600 := gi_g g2122_ rfl
          refine gVv (nY := 2) (F := 5) (L := 117) (As := []) (b := 344) (rest := []) hm_184 rfl hm_178 rfl rfl (fl_ob sc_344) rfl rfl rfl rfl rfl (by omega) (by omega) (mc_178 hG F2121_ X g2122_ (K) (l) (tl) (pl) (ps) hgK rk2125_ hkt (⟨by omega, by omega⟩) ((trm_fs (trm_fs (trm_fs (trm_fs ht1.1 s2089_ (by first | exact fs_rg rfl | exact fun r j hj => (fs_n (by omega) (fs_n (by omega) rfl)))) s2102_ (by first | exact fs_rg rfl | exact fun r j hj => (fs_n (by omega) (fs_n (by omega) rfl)))) s2113_ (by first | exact fs_rg rfl | exact fun r j hj => (fs_n (by omega) (fs_n (by omega) rfl)))) s2123_ (by first | exact fs_rg rfl | exact fun r j hj => (fs_n (by omega) (fs_n (by omega) rfl))))) (ht1.2) ((rpn_fs (rpn_fs (rpn_fs (rpn_fs (rpn_fs (rpn_fs (rpn_fs (rpn_fs (rpn_fs (rpn_fs (rpn_fs (rpn_fs (rpn_fs (rpn_fs (rpn_fs (rpn_fs (rpn_fs (rpn_fs (rpn_fs hpl s8_ (fun _ => (by first | exact fs_c rfl | exact (fs_n (by omega) (fs_n (by omega) rfl)))) (by first | exact fs_c rfl | exact (fs_n (by omega) (fs_n (by omega) rfl)))) s18_ (fun _ => (by first | exact fs_c rfl | exact (fs_n (by omega) (fs_n (by omega) rfl)))) (by first | exact fs_c rfl | exact (fs_n (by omega) (fs_n (by omega) rfl)))) s28_ (fun _ => (by first | exact fs_c rfl | exact (fs_n (by omega) (fs_n (by omega) rfl)))) (by first | exact fs_c rfl | exact (fs_n (by omega) (fs_n (by omega) rfl)))) s38_ (fun _ => (by first | exact fs_c rfl | exact (fs_n (by omega) (fs_n (by omega) rfl)))) (by first | exact fs_c rfl | exact (fs_n (by omega) (fs_n (by omega) rfl)))) s50_ (fun _ => (by first | exact fs_c rfl | exact (fs_n (by omega) rfl))) (by first | exact fs_c rfl | exact (fs_n (by omega) rfl))) s59_ (fun _ => (by first | exact fs_c rfl | exact (fs_n (by omega) rfl))) (by first | exact fs_c rfl | exact (fs_n (by omega) rfl))) s69_ (fun _ => (by first | exact fs_c rfl | exact (fs_n (by omega) (fs_n (by omega) rfl)))) (by first | exact fs_c rfl | exact (fs_n (by omega) (fs_n (by omega) rfl)))) s79_ (fun _ => (by first | exact fs_c rfl | exact (fs_n (by omega) (fs_n (by omega) rfl)))) (by first | exact fs_c rfl | exact (fs_n (by omega) (fs_n (by omega) rfl)))) s89_ (fun _ => (by first | exact fs_c rfl | exact (fs_n (by omega) (fs_n (by omega) rfl)))) (by first | exact fs_c rfl | exact (fs_n (by omega) (fs_n (by omega) rfl)))) s101_ (fun _ => (by first | exact fs_c rfl | exact (fs_n (by omega) rfl))) (by first | exact fs_c rfl | exact (fs_n (by omega) rfl))) s2039_ (fun _ => (by first | exact fs_c rfl | exact (fs_n (by omega) rfl))) (by first | exact fs_c rfl | exact (fs_n (by omega) rfl))) s2049_ (fun _ => (by first | exact fs_c rfl | exact (fs_n (by omega) (fs_n (by omega) rfl)))) (by first | exact fs_c rfl | exact (fs_n (by omega) (fs_n (by omega) rfl)))) s2059_ (fun _ => (by first | exact fs_c rfl | exact (fs_n (by omega) (fs_n (by omega) rfl)))) (by first | exact fs_c rfl | exact (fs_n (by omega) (fs_n (by omega) rfl)))) s2069_ (fun _ => (by first | exact fs_c rfl | exact (fs_n (by omega) (fs_n (by omega) rfl)))) (by first | exact fs_c rfl | exact (fs_n (by omega) (fs_n (by omega) rfl)))) hf_F1 (fun _ => (by first | exact fs_c rfl | exact (fs_n (by omega) (fs_n (by omega) (fs_n (by omega) (fs_n (by omega) rfl)))))) (by first | exact fs_c rfl | exact (fs_n (by omega) (fs_n (by omega) (fs_n (by omega) (fs_n (by omega) rfl)))))) s2089_ (fun _ => (by first | exact fs_c rfl | exact (fs_n (by omega) (fs_n (by omega) rfl)))) (by first | exact fs_c rfl | exact (fs_n (by omega) (fs_n (by omega) rfl)))) s2102_ (fun _ => (by first | exact fs_c rfl | exact (fs_n (by omega) (fs_n (by omega) rfl)))) (by first | exact fs_c rfl | exact (fs_n (by omega) (fs_n (by omega) rfl)))) s2113_ (fun _ => (by first | exact fs_c rfl | exact (fs_n (by omega) (fs_n (by omega) rfl)))) (by first | exact fs_c rfl | exact (fs_n (by omega) (fs_n (by omega) rfl)))) s2123_ (fun _ => (by first | exact fs_c rfl | exact (fs_n (by omega) (fs_n (by omega) rfl)))) (by first | exact fs_c rfl | exact (fs_n (by omega) (fs_n (by omega) rfl))))) (⟨(rprd_fs (rprd_fs (rprd_fs (rprd_fs (rprd_fs (rprd_fs (rprd_fs (rprd_fs (rprd_fs (rprd_fs (rprd_fs (rprd_fs (rprd_fs (rprd_fs (rprd_fs (rprd_fs (rprd_fs (rprd_fs (rprd_fs hps.1 s8_ (by first | exact fs_rg rfl | exact fun r j hj => (fs_n (by omega) (fs_n (by omega) rfl)))) s18_ (by first | exact fs_rg rfl | exact fun r j hj => (fs_n (by omega) (fs_n (by omega) rfl)))) s28_ (by first | exact fs_rg rfl | exact fun r j hj => (fs_n (by omega) (fs_n (by omega) rfl)))) s38_ (by first | exact fs_rg rfl | exact fun r j hj => (fs_n (by omega) (fs_n (by omega) rfl)))) s50_ (by first | exact fs_rg rfl | exact fun r j hj => (fs_n (by omega) rfl))) s59_ (by first | exact fs_rg rfl | exact fun r j hj => (fs_n (by omega) rfl))) s69_ (by first | exact fs_rg rfl | exact fun r j hj => (fs_n (by omega) (fs_n (by omega) rfl)))) s79_ (by first | exact fs_rg rfl | exact fun r j hj => (fs_n (by omega) (fs_n (by omega) rfl)))) s89_ (by first | exact fs_rg rfl | exact fun r j hj => (fs_n (by omega) (fs_n (by omega) rfl)))) s101_ (by first | exact fs_rg rfl | exact fun r j hj => (fs_n (by omega) rfl))) s2039_ (by first | exact fs_rg rfl | exact fun r j hj => (fs_n (by omega) rfl))) s2049_ (by first | exact fs_rg rfl | exact fun r j hj => (fs_n (by omega) (fs_n (by omega) rfl)))) s2059_ (by first | exact fs_rg rfl | exact fun r j hj => (fs_n (by omega) (fs_n (by omega) rfl)))) s2069_ (by first | exact fs_rg rfl | exact fun r j hj => (fs_n (by omega) (fs_n (by omega) rfl)))) hf_F1 (by first | exact fs_rg rfl | exact fun r j hj => (fs_n (by omega) (fs_n (by omega) (fs_n (by omega) (fs_n (by omega) rfl)))))) s2089_ (by first | exact fs_rg rfl | exact fun r j hj => (fs_n (by omega) (fs_n (by omega) rfl)))) s2102_ (by first | exact fs_rg rfl | exact fun r j hj => (fs_n (by omega) (fs_n (by omega) rfl)))) s2113_ (by first | exact fs_rg rfl | exact fun r j hj => (fs_n (by omega) (fs_n (by omega) rfl)))) s2123_ (by first | exact fs_rg rfl | exact fun r j hj => (fs_n (by omega) (fs_n (by omega) rfl)))), hps.2⟩)) (fun _ _ h => False.elim h) ?_
          have b2128_ : 0 ≤ F2121_ 344 9 ∧ F2121_ 344 9 ≤ 5 := gi_g g2122_ rfl
          rintro A1_ ⟨F2131_, hA_, g2132_, s2133_, c2129_, c2130_⟩
          subst hA_
          have g2134_ : fs [(344, 344, 5, 5), (344, 344, 9, 10), (344, 344, 33, 33), (344, 344, 36, 36), (344, 344, 64, 64), (358, 358, 0, 100000), (360, 366, 0, 100000)] F F2131_ := fs_tr g2124_ s2133_ rfl
          have rk2135_ : rk K F2131_ := rk_fs rk2125_ s2133_ (fs_rg rfl) rfl
          refine ga_aload_n (v := .ref 344) hm_184 rfl rfl rfl ?_
          refine fl_bipush hm_184 rfl rfl ?_
          have b2136_ : 0 ≤ F2131_ 344 5 ∧ F2131_ 344 5 ≤ 600 := gi_g g2132_ rfl
          refine gVv (nY := 2) (F := 2) (L := 41) (As := [.int (Int32.ofInt 41)]) (b := 344) (rest := []) hm_184 rfl hm_51 rfl rfl (fl_ob sc_344) rfl rfl rfl rfl rfl (by omega) (by omega) (mc_51s hG F2131_ X g2132_ (K) (41) (1) hgK rk2135_ hkt (⟨by omega, by omega⟩) (by omega) (by omega)) (fun _ _ h => False.elim h) ?_
          have b2138_ : 0 ≤ F2131_ 344 9 ∧ F2131_ 344 9 ≤ 5 := gi_g g2132_ rfl
          rintro A1_ ⟨F2141_, hA_, g2142_, s2143_, c2139_, c2140_⟩
          subst hA_
          have g2144_ : fs [(344, 344, 5, 5), (344, 344, 9, 10), (344, 344, 33, 33), (344, 344, 36, 36), (344, 344, 64, 64), (358, 358, 0, 100000), (360, 366, 0, 100000)] F F2141_ := fs_tr g2134_ s2143_ rfl
          have rk2145_ : rk K F2141_ := rk_fs rk2135_ s2143_ (fs_rg rfl) rfl
          refine ga_aload_n (v := .ref 344) hm_184 rfl rfl rfl ?_
          refine fl_bipush hm_184 rfl rfl ?_
          have b2146_ : 0 ≤ F2141_ 344 5 ∧ F2141_ 344 5 ≤ 600 := gi_g g2142_ rfl
          refine gVv (nY := 2) (F := 2) (L := 41) (As := [.int (Int32.ofInt 40)]) (b := 344) (rest := []) hm_184 rfl hm_51 rfl rfl (fl_ob sc_344) rfl rfl rfl rfl rfl (by omega) (by omega) (mc_51s hG F2141_ X g2142_ (K) (40) (0) hgK rk2145_ hkt (⟨by omega, by omega⟩) (by omega) (by omega)) (fun _ _ h => False.elim h) ?_
          have b2148_ : 0 ≤ F2141_ 344 9 ∧ F2141_ 344 9 ≤ 5 := gi_g g2142_ rfl
          rintro A1_ ⟨F2151_, hA_, g2152_, s2153_, c2149_, c2150_⟩
          subst hA_
          have g2154_ : fs [(344, 344, 5, 5), (344, 344, 9, 10), (344, 344, 33, 33), (344, 344, 36, 36), (344, 344, 64, 64), (358, 358, 0, 100000), (360, 366, 0, 100000)] F F2151_ := fs_tr g2144_ s2153_ rfl
          have rk2155_ : rk K F2151_ := rk_fs rk2145_ s2153_ (fs_rg rfl) rfl
          refine ga_aload_n (v := .ref 344) hm_184 rfl rfl rfl ?_
          refine fl_bipush hm_184 rfl rfl ?_
          have b2156_ : 0 ≤ F2151_ 344 5 ∧ F2151_ 344 5 ≤ 600 := gi_g g2152_ rfl
          refine gVv (nY := 2) (F := 2) (L := 44) (As := [.int (Int32.ofInt 17)]) (b := 344) (rest := []) hm_184 rfl hm_55 rfl rfl (fl_ob sc_344) rfl rfl rfl rfl rfl (by omega) (by omega) (mc_55s hG F2151_ X g2152_ (K) (17) ([58, 103, 111, 97, 108]) hgK rk2155_ hkt (⟨by omega, by omega⟩) (⟨by omega, by omega⟩) (by decide) (kw_17 rk2155_)) (fun _ _ h => False.elim h) ?_
          have b2158_ : 0 ≤ F2151_ 344 9 ∧ F2151_ 344 9 ≤ 5 := gi_g g2152_ rfl
          rintro A1_ ⟨F2161_, hA_, g2162_, s2163_, c2159_, c2160_⟩
          subst hA_
          have g2164_ : fs [(344, 344, 5, 5), (344, 344, 9, 10), (344, 344, 33, 33), (344, 344, 36, 36), (344, 344, 64, 64), (358, 358, 0, 100000), (360, 366, 0, 100000)] F F2161_ := fs_tr g2154_ s2163_ rfl
          have rk2165_ : rk K F2161_ := rk_fs rk2155_ s2163_ (fs_rg rfl) rfl
          refine ga_aload_n (v := .ref 344) hm_184 rfl rfl rfl ?_
          refine ga_getr (b := 358) hm_184 rfl sc_344 rfl ?_
          refine fl_iconst hm_184 rfl ?_
          refine fl_iconst hm_184 rfl ?_
          refine fl_iast (z := 5) (v := 0) hm_184 rfl sc_358 (by omega) (by omega) (by omega) ?_
          refine ga_aload_n (v := .ref 344) hm_184 rfl rfl rfl ?_
          refine fl_iconst hm_184 rfl ?_
          refine fl_bipush hm_184 rfl rfl ?_
          obtain ⟨F2166_, q2167_⟩ : ∃ Fq_, Fq_ = (fl_u F2161_ 358 (5 : Int).toNat 0) := ⟨_, rfl⟩
          rw [← q2167_]
          have g2168_ : gi F2166_ := by rw [q2167_]; exact gi_u (g2162_) rfl (by omega) (by omega)
          have g2169_ : fs [(344, 344, 5, 5), (344, 344, 9, 10), (344, 344, 33, 33), (344, 344, 36, 36), (344, 344, 64, 64), (358, 358, 0, 100000), (360, 366, 0, 100000)] F F2166_ := by rw [q2167_]; exact fs_u (g2164_) rfl
          have rk2170_ : rk K F2166_ := by rw [q2167_]; exact rk_u (rk2165_) (by first | decide | exact nc_ rfl | omega) (by first | decide | exact nc_ rfl | omega)
          have e2171_ : F2166_ 344 5 = F2161_ 344 5 := by rw [q2167_]; exact fl_u_ne (by first | exact nc_ rfl | decide | omega)
          have b2172_ : 0 ≤ F2161_ 344 5 ∧ F2161_ 344 5 ≤ 600 := gi_g g2162_ rfl
          refine gVv (nY := 4) (F := 6) (L := 142) (As := [.int (Int32.ofInt 5), .int (Int32.ofInt 40)]) (b := 344) (rest := []) hm_184 rfl hm_175 rfl rfl (fl_ob sc_344) rfl rfl rfl rfl rfl (by omega) (by omega) (mc_175s hG F2166_ X g2168_ (K) (5) (40) (2) (l) (tl) (pl) (ps) hgK rk2170_ hkt (⟨by omega, by omega⟩) ((by rw [q2167_]; exact (trm_u (trm_fs (trm_fs (trm_fs (trm_fs (trm_fs (trm_fs (trm_fs (trm_fs ht1.1 s2089_ (by first | exact fs_rg rfl | exact fun r j hj => (fs_n (by omega) (fs_n (by omega) rfl)))) s2102_ (by first | exact fs_rg rfl | exact fun r j hj => (fs_n (by omega) (fs_n (by omega) rfl)))) s2113_ (by first | exact fs_rg rfl | exact fun r j hj => (fs_n (by omega) (fs_n (by omega) rfl)))) s2123_ (by first | exact fs_rg rfl | exact fun r j hj => (fs_n (by omega) (fs_n (by omega) rfl)))) s2133_ (by first | exact fs_rg rfl | exact fun r j hj => (fs_n (by omega) (fs_n (by omega) (fs_n (by omega) (fs_n (by omega) rfl)))))) s2143_ (by first | exact fs_rg rfl | exact fun r j hj => (fs_n (by omega) (fs_n (by omega) rfl)))) s2153_ (by first | exact fs_rg rfl | exact fun r j hj => (fs_n (by omega) (fs_n (by omega) rfl)))) s2163_ (by first | exact fs_rg rfl | exact fun r j hj => (fs_n (by omega) (fs_n (by omega) rfl)))) (by first | decide | exact nc_ rfl | omega)))) (ht1.2) (⟨by omega, by omega⟩) ((by rw [q2167_]; exact (rpn_u (rpn_fs (rpn_fs (rpn_fs (rpn_fs (rpn_fs (rpn_fs (rpn_fs (rpn_fs (rpn_fs (rpn_fs (rpn_fs (rpn_fs (rpn_fs (rpn_fs (rpn_fs (rpn_fs (rpn_fs (rpn_fs (rpn_fs (rpn_fs (rpn_fs (rpn_fs (rpn_fs hpl s8_ (fun _ => (by first | exact fs_c rfl | exact (fs_n (by omega) (fs_n (by omega) rfl)))) (by first | exact fs_c rfl | exact (fs_n (by omega) (fs_n (by omega) rfl)))) s18_ (fun _ => (by first | exact fs_c rfl | exact (fs_n (by omega) (fs_n (by omega) rfl)))) (by first | exact fs_c rfl | exact (fs_n (by omega) (fs_n (by omega) rfl)))) s28_ (fun _ => (by first | exact fs_c rfl | exact (fs_n (by omega) (fs_n (by omega) rfl)))) (by first | exact fs_c rfl | exact (fs_n (by omega) (fs_n (by omega) rfl)))) s38_ (fun _ => (by first | exact fs_c rfl | exact (fs_n (by omega) (fs_n (by omega) rfl)))) (by first | exact fs_c rfl | exact (fs_n (by omega) (fs_n (by omega) rfl)))) s50_ (fun _ => (by first | exact fs_c rfl | exact (fs_n (by omega) rfl))) (by first | exact fs_c rfl | exact (fs_n (by omega) rfl))) s59_ (fun _ => (by first | exact fs_c rfl | exact (fs_n (by omega) rfl))) (by first | exact fs_c rfl | exact (fs_n (by omega) rfl))) s69_ (fun _ => (by first | exact fs_c rfl | exact (fs_n (by omega) (fs_n (by omega) rfl)))) (by first | exact fs_c rfl | exact (fs_n (by omega) (fs_n (by omega) rfl)))) s79_ (fun _ => (by first | exact fs_c rfl | exact (fs_n (by omega) (fs_n (by omega) rfl)))) (by first | exact fs_c rfl | exact (fs_n (by omega) (fs_n (by omega) rfl)))) s89_ (fun _ => (by first | exact fs_c rfl | exact (fs_n (by omega) (fs_n (by omega) rfl)))) (by first | exact fs_c rfl | exact (fs_n (by omega) (fs_n (by omega) rfl)))) s101_ (fun _ => (by first | exact fs_c rfl | exact (fs_n (by omega) rfl))) (by first | exact fs_c rfl | exact (fs_n (by omega) rfl))) s2039_ (fun _ => (by first | exact fs_c rfl | exact (fs_n (by omega) rfl))) (by first | exact fs_c rfl | exact (fs_n (by omega) rfl))) s2049_ (fun _ => (by first | exact fs_c rfl | exact (fs_n (by omega) (fs_n (by omega) rfl)))) (by first | exact fs_c rfl | exact (fs_n (by omega) (fs_n (by omega) rfl)))) s2059_ (fun _ => (by first | exact fs_c rfl | exact (fs_n (by omega) (fs_n (by omega) rfl)))) (by first | exact fs_c rfl | exact (fs_n (by omega) (fs_n (by omega) rfl)))) s2069_ (fun _ => (by first | exact fs_c rfl | exact (fs_n (by omega) (fs_n (by omega) rfl)))) (by first | exact fs_c rfl | exact (fs_n (by omega) (fs_n (by omega) rfl)))) hf_F1 (fun _ => (by first | exact fs_c rfl | exact (fs_n (by omega) (fs_n (by omega) (fs_n (by omega) (fs_n (by omega) rfl)))))) (by first | exact fs_c rfl | exact (fs_n (by omega) (fs_n (by omega) (fs_n (by omega) (fs_n (by omega) rfl)))))) s2089_ (fun _ => (by first | exact fs_c rfl | exact (fs_n (by omega) (fs_n (by omega) rfl)))) (by first | exact fs_c rfl | exact (fs_n (by omega) (fs_n (by omega) rfl)))) s2102_ (fun _ => (by first | exact fs_c rfl | exact (fs_n (by omega) (fs_n (by omega) rfl)))) (by first | exact fs_c rfl | exact (fs_n (by omega) (fs_n (by omega) rfl)))) s2113_ (fun _ => (by first | exact fs_c rfl | exact (fs_n (by omega) (fs_n (by omega) rfl)))) (by first | exact fs_c rfl | exact (fs_n (by omega) (fs_n (by omega) rfl)))) s2123_ (fun _ => (by first | exact fs_c rfl | exact (fs_n (by omega) (fs_n (by omega) rfl)))) (by first | exact fs_c rfl | exact (fs_n (by omega) (fs_n (by omega) rfl)))) s2133_ (fun _ => (by first | exact fs_c rfl | exact (fs_n (by omega) (fs_n (by omega) (fs_n (by omega) (fs_n (by omega) rfl)))))) (by first | exact fs_c rfl | exact (fs_n (by omega) (fs_n (by omega) (fs_n (by omega) (fs_n (by omega) rfl)))))) s2143_ (fun _ => (by first | exact fs_c rfl | exact (fs_n (by omega) (fs_n (by omega) rfl)))) (by first | exact fs_c rfl | exact (fs_n (by omega) (fs_n (by omega) rfl)))) s2153_ (fun _ => (by first | exact fs_c rfl | exact (fs_n (by omega) (fs_n (by omega) rfl)))) (by first | exact fs_c rfl | exact (fs_n (by omega) (fs_n (by omega) rfl)))) s2163_ (fun _ => (by first | exact fs_c rfl | exact (fs_n (by omega) (fs_n (by omega) rfl)))) (by first | exact fs_c rfl | exact (fs_n (by omega) (fs_n (by omega) rfl)))) (by first | decide | exact nc_ rfl | omega) (by first | decide | exact nc_ rfl | omega)))) (⟨(by rw [q2167_]; exact (rprd_u (rprd_fs (rprd_fs (rprd_fs (rprd_fs (rprd_fs (rprd_fs (rprd_fs (rprd_fs (rprd_fs (rprd_fs (rprd_fs (rprd_fs (rprd_fs (rprd_fs (rprd_fs (rprd_fs (rprd_fs (rprd_fs (rprd_fs (rprd_fs (rprd_fs (rprd_fs (rprd_fs hps.1 s8_ (by first | exact fs_rg rfl | exact fun r j hj => (fs_n (by omega) (fs_n (by omega) rfl)))) s18_ (by first | exact fs_rg rfl | exact fun r j hj => (fs_n (by omega) (fs_n (by omega) rfl)))) s28_ (by first | exact fs_rg rfl | exact fun r j hj => (fs_n (by omega) (fs_n (by omega) rfl)))) s38_ (by first | exact fs_rg rfl | exact fun r j hj => (fs_n (by omega) (fs_n (by omega) rfl)))) s50_ (by first | exact fs_rg rfl | exact fun r j hj => (fs_n (by omega) rfl))) s59_ (by first | exact fs_rg rfl | exact fun r j hj => (fs_n (by omega) rfl))) s69_ (by first | exact fs_rg rfl | exact fun r j hj => (fs_n (by omega) (fs_n (by omega) rfl)))) s79_ (by first | exact fs_rg rfl | exact fun r j hj => (fs_n (by omega) (fs_n (by omega) rfl)))) s89_ (by first | exact fs_rg rfl | exact fun r j hj => (fs_n (by omega) (fs_n (by omega) rfl)))) s101_ (by first | exact fs_rg rfl | exact fun r j hj => (fs_n (by omega) rfl))) s2039_ (by first | exact fs_rg rfl | exact fun r j hj => (fs_n (by omega) rfl))) s2049_ (by first | exact fs_rg rfl | exact fun r j hj => (fs_n (by omega) (fs_n (by omega) rfl)))) s2059_ (by first | exact fs_rg rfl | exact fun r j hj => (fs_n (by omega) (fs_n (by omega) rfl)))) s2069_ (by first | exact fs_rg rfl | exact fun r j hj => (fs_n (by omega) (fs_n (by omega) rfl)))) hf_F1 (by first | exact fs_rg rfl | exact fun r j hj => (fs_n (by omega) (fs_n (by omega) (fs_n (by omega) (fs_n (by omega) rfl)))))) s2089_ (by first | exact fs_rg rfl | exact fun r j hj => (fs_n (by omega) (fs_n (by omega) rfl)))) s2102_ (by first | exact fs_rg rfl | exact fun r j hj => (fs_n (by omega) (fs_n (by omega) rfl)))) s2113_ (by first | exact fs_rg rfl | exact fun r j hj => (fs_n (by omega) (fs_n (by omega) rfl)))) s2123_ (by first | exact fs_rg rfl | exact fun r j hj => (fs_n (by omega) (fs_n (by omega) rfl)))) s2133_ (by first | exact fs_rg rfl | exact fun r j hj => (fs_n (by omega) (fs_n (by omega) (fs_n (by omega) (fs_n (by omega) rfl)))))) s2143_ (by first | exact fs_rg rfl | exact fun r j hj => (fs_n (by omega) (fs_n (by omega) rfl)))) s2153_ (by first | exact fs_rg rfl | exact fun r j hj => (fs_n (by omega) (fs_n (by omega) rfl)))) s2163_ (by first | exact fs_rg rfl | exact fun r j hj => (fs_n (by omega) (fs_n (by omega) rfl)))) (by first | decide | exact nc_ rfl | omega))), hps.2⟩) (⟨by omega, by omega⟩) (Or.inr (by omega)) (by rw [q2167_]; exact fl_u_eq)) (fun _ _ h => False.elim h) ?_
          have e2174_ : F2166_ 344 9 = F2161_ 344 9 := by rw [q2167_]; exact fl_u_ne (by first | exact nc_ rfl | decide | omega)
          have b2175_ : 0 ≤ F2161_ 344 9 ∧ F2161_ 344 9 ≤ 5 := gi_g g2162_ rfl
          rintro A1_ ⟨F2178_, hA_, g2179_, s2180_, c2176_, c2177_⟩
          subst hA_
          have g2181_ : fs [(344, 344, 5, 5), (344, 344, 9, 10), (344, 344, 33, 33), (344, 344, 36, 36), (344, 344, 64, 64), (358, 358, 0, 100000), (360, 366, 0, 100000)] F F2178_ := fs_tr g2169_ s2180_ rfl
          have rk2182_ : rk K F2178_ := rk_fs rk2170_ s2180_ (fs_rg rfl) rfl
          try simp only [e2174_] at c2176_
          refine ga_aload_n (v := .ref 344) hm_184 rfl rfl rfl ?_
          refine fl_bipush hm_184 rfl rfl ?_
          have b2183_ : 0 ≤ F2178_ 344 5 ∧ F2178_ 344 5 ≤ 600 := gi_g g2179_ rfl
          refine gVv (nY := 2) (F := 2) (L := 41) (As := [.int (Int32.ofInt 41)]) (b := 344) (rest := []) hm_184 rfl hm_51 rfl rfl (fl_ob sc_344) rfl rfl rfl rfl rfl (by omega) (by omega) (mc_51s hG F2178_ X g2179_ (K) (41) (1) hgK rk2182_ hkt (⟨by omega, by omega⟩) (by omega) (by omega)) (fun _ _ h => False.elim h) ?_
          have b2185_ : 0 ≤ F2178_ 344 9 ∧ F2178_ 344 9 ≤ 5 := gi_g g2179_ rfl
          rintro A1_ ⟨F2188_, hA_, g2189_, s2190_, c2186_, c2187_⟩
          subst hA_
          have g2191_ : fs [(344, 344, 5, 5), (344, 344, 9, 10), (344, 344, 33, 33), (344, 344, 36, 36), (344, 344, 64, 64), (358, 358, 0, 100000), (360, 366, 0, 100000)] F F2188_ := fs_tr g2181_ s2190_ rfl
          have rk2192_ : rk K F2188_ := rk_fs rk2182_ s2190_ (fs_rg rfl) rfl
          refine ga_aload_n (v := .ref 344) hm_184 rfl rfl rfl ?_
          refine fl_bipush hm_184 rfl rfl ?_
          have b2193_ : 0 ≤ F2188_ 344 5 ∧ F2188_ 344 5 ≤ 600 := gi_g g2189_ rfl
          refine gVv (nY := 2) (F := 2) (L := 41) (As := [.int (Int32.ofInt 41)]) (b := 344) (rest := []) hm_184 rfl hm_51 rfl rfl (fl_ob sc_344) rfl rfl rfl rfl rfl (by omega) (by omega) (mc_51s hG F2188_ X g2189_ (K) (41) (1) hgK rk2192_ hkt (⟨by omega, by omega⟩) (by omega) (by omega)) (fun _ _ h => False.elim h) ?_
          have b2195_ : 0 ≤ F2188_ 344 9 ∧ F2188_ 344 9 ≤ 5 := gi_g g2189_ rfl
          rintro A1_ ⟨F2198_, hA_, g2199_, s2200_, c2196_, c2197_⟩
          subst hA_
          have g2201_ : fs [(344, 344, 5, 5), (344, 344, 9, 10), (344, 344, 33, 33), (344, 344, 36, 36), (344, 344, 64, 64), (358, 358, 0, 100000), (360, 366, 0, 100000)] F F2198_ := fs_tr g2191_ s2200_ rfl
          have rk2202_ : rk K F2198_ := rk_fs rk2192_ s2200_ (fs_rg rfl) rfl
          refine ga_aload_n (v := .ref 344) hm_184 rfl rfl rfl ?_
          refine gIi (nY := 1) (F := 0) (L := 0) (As := []) (b := 344) (rest := []) hm_184 rfl hm_59 rfl rfl (fl_ob sc_344) rfl rfl rfl rfl rfl (by omega) (by omega) ?_
          intro f2203_ l2204_ h2205_ h2206_
          show fl_R xi_ms 59 f2203_ l2204_ 0 [(0, .ref 344)] [] _ _
          refine ga_aload_n (v := .ref 344) hm_59 rfl rfl rfl ?_
          have b2207_ : 0 ≤ F2198_ 344 9 ∧ F2198_ 344 9 ≤ 5 := gi_g g2199_ rfl
          refine ga_geti (z := F2198_ 344 9) hm_59 rfl sc_344 rfl (rfl) ?_
          refine fl_if_le (a := F2198_ 344 9) hm_59 rfl ⟨by omega, by omega⟩ (fun h2208_ => ?_) (fun h2209_ => ?_)
          ·
            refine fl_iconst hm_59 rfl ?_
            refine gr_i hm_59 rfl rfl (ga_nb (by omega)) ?_
            clear h2205_ h2206_ f2203_ l2204_
            refine fl_if_ne hm_184 rfl ⟨by omega, by omega⟩ (fun h => absurd h (by omega)) (fun _ => ?_)
            refine ga_aload_n (v := .ref 344) hm_184 rfl rfl rfl ?_
            have b2210_ : 0 ≤ F2198_ 344 5 ∧ F2198_ 344 5 ≤ 600 := gi_g g2199_ rfl
            refine ga_geti (z := F2198_ 344 5) hm_184 rfl sc_344 rfl (rfl) ?_
            refine ga_aload_n (v := .ref 344) hm_184 rfl rfl rfl ?_
            have e2211_ : F2198_ 344 4 = K 1 6 - 1 := rk2202_.2.1
            refine ga_geti (z := K 1 6 - 1) hm_184 rfl sc_344 rfl (e2211_) ?_
            refine fl_icmp_ge (a := F2198_ 344 5) (b := K 1 6 - 1) hm_184 rfl ⟨by omega, by omega⟩ ⟨by omega, by omega⟩ (fun h2212_ => ?_) (fun h2213_ => ?_)
            ·
              refine gr_v hm_184 rfl rfl ?_
              exact ⟨F2198_, rfl, g2199_, g2201_, (⟨by omega, by omega⟩)⟩
            refine ga_aload_n (v := .ref 344) hm_184 rfl rfl rfl ?_
            refine fl_iconst hm_184 rfl ?_
            refine gVv (nY := 2) (F := 0) (L := 0) (As := [.int (Int32.ofInt 1)]) (b := 344) (rest := []) hm_184 rfl hm_54 rfl rfl (fl_ob sc_344) rfl rfl rfl rfl rfl (by omega) (by omega) (mc_54 hG F2198_ X g2199_ (K) (1) hgK rk2202_ hkt (⟨by omega, by omega⟩) (⟨by omega, by omega⟩)) (fun _ _ h => False.elim h) ?_
            have b2215_ : 0 ≤ F2198_ 344 10 ∧ F2198_ 344 10 ≤ 600 := gi_g g2199_ rfl
            rintro A1_ ⟨F2219_, hA_, g2220_, s2221_, c2216_, c2217_, c2218_⟩
            subst hA_
            have g2222_ : fs [(344, 344, 5, 5), (344, 344, 9, 10), (344, 344, 33, 33), (344, 344, 36, 36), (344, 344, 64, 64), (358, 358, 0, 100000), (360, 366, 0, 100000)] F F2219_ := fs_tr g2201_ s2221_ rfl
            have rk2223_ : rk K F2219_ := rk_fs rk2202_ s2221_ (fs_rg rfl) rfl
            have c2217_s := c2217_.1 (by omega)
            clear c2217_
            refine gr_v hm_184 rfl rfl ?_
            have e2224_ : F2219_ 344 5 = F2198_ 344 5 := (s2221_ 344 5 rfl).trans (rfl)
            exact ⟨F2219_, rfl, g2220_, g2222_, (⟨by omega, by omega⟩)⟩
          refine fl_iconst hm_59 rfl ?_
          refine fl_goto hm_59 rfl ?_
          refine gr_i hm_59 rfl rfl (ga_nb (by omega)) ?_
          clear h2205_ h2206_ f2203_ l2204_
          refine fl_if_ne hm_184 rfl ⟨by omega, by omega⟩ (fun _ => ?_) (fun h => absurd (by omega) h)
          refine gr_v hm_184 rfl rfl ?_
          have b2225_ : 0 ≤ F2198_ 344 5 ∧ F2198_ 344 5 ≤ 600 := gi_g g2199_ rfl
          exact ⟨F2198_, rfl, g2199_, g2201_, (⟨by omega, by omega⟩)⟩
        refine fl_iconst hm_59 rfl ?_
        refine fl_goto hm_59 rfl ?_
        refine gr_i hm_59 rfl rfl (ga_nb (by omega)) ?_
        clear h2094_ h2095_ f2092_ l2093_
        refine fl_if_ne hm_184 rfl ⟨by omega, by omega⟩ (fun _ => ?_) (fun h => absurd (by omega) h)
        refine ga_aload_n (v := .ref 344) hm_184 rfl rfl rfl ?_
        refine fl_bipush hm_184 rfl rfl ?_
        have b2226_ : 0 ≤ F2087_ 344 5 ∧ F2087_ 344 5 ≤ 600 := gi_g g2088_ rfl
        refine gVv (nY := 2) (F := 2) (L := 41) (As := [.int (Int32.ofInt 40)]) (b := 344) (rest := []) hm_184 rfl hm_51 rfl rfl (fl_ob sc_344) rfl rfl rfl rfl rfl (by omega) (by omega) (mc_51s hG F2087_ X g2088_ (K) (40) (0) hgK rk2091_ hkt (⟨by omega, by omega⟩) (by omega) (by omega)) (fun _ _ h => False.elim h) ?_
        rintro A1_ ⟨F2230_, hA_, g2231_, s2232_, c2228_, c2229_⟩
        subst hA_
        have g2233_ : fs [(344, 344, 5, 5), (344, 344, 9, 10), (344, 344, 33, 33), (344, 344, 36, 36), (344, 344, 64, 64), (358, 358, 0, 100000), (360, 366, 0, 100000)] F F2230_ := fs_tr g2090_ s2232_ rfl
        have rk2234_ : rk K F2230_ := rk_fs rk2091_ s2232_ (fs_rg rfl) rfl
        refine ga_aload_n (v := .ref 344) hm_184 rfl rfl rfl ?_
        refine fl_bipush hm_184 rfl rfl ?_
        have b2235_ : 0 ≤ F2230_ 344 5 ∧ F2230_ 344 5 ≤ 600 := gi_g g2231_ rfl
        refine gVv (nY := 2) (F := 2) (L := 44) (As := [.int (Int32.ofInt 16)]) (b := 344) (rest := []) hm_184 rfl hm_55 rfl rfl (fl_ob sc_344) rfl rfl rfl rfl rfl (by omega) (by omega) (mc_55s hG F2230_ X g2231_ (K) (16) ([58, 105, 110, 105, 116]) hgK rk2234_ hkt (⟨by omega, by omega⟩) (⟨by omega, by omega⟩) (by decide) (kw_16 rk2234_)) (fun _ _ h => False.elim h) ?_
        have b2237_ : 0 ≤ F2230_ 344 9 ∧ F2230_ 344 9 ≤ 5 := gi_g g2231_ rfl
        rintro A1_ ⟨F2240_, hA_, g2241_, s2242_, c2238_, c2239_⟩
        subst hA_
        have g2243_ : fs [(344, 344, 5, 5), (344, 344, 9, 10), (344, 344, 33, 33), (344, 344, 36, 36), (344, 344, 64, 64), (358, 358, 0, 100000), (360, 366, 0, 100000)] F F2240_ := fs_tr g2233_ s2242_ rfl
        have rk2244_ : rk K F2240_ := rk_fs rk2234_ s2242_ (fs_rg rfl) rfl
        refine ga_aload_n (v := .ref 344) hm_184 rfl rfl rfl ?_
        have b2245_ : 0 ≤ F2240_ 344 5 ∧ F2240_ 344 5 ≤ 600 := gi_g g2241_ rfl
        refine gVv (nY := 2) (F := 5) (L := 117) (As := []) (b := 344) (rest := []) hm_184 rfl hm_178 rfl rfl (fl_ob sc_344) rfl rfl rfl rfl rfl (by omega) (by omega) (mc_178 hG F2240_ X g2241_ (K) (l) (tl) (pl) (ps) hgK rk2244_ hkt (⟨by omega, by omega⟩) ((trm_fs (trm_fs (trm_fs ht1.1 s2089_ (by first | exact fs_rg rfl | exact fun r j hj => (fs_n (by omega) (fs_n (by omega) rfl)))) s2232_ (by first | exact fs_rg rfl | exact fun r j hj => (fs_n (by omega) (fs_n (by omega) rfl)))) s2242_ (by first | exact fs_rg rfl | exact fun r j hj => (fs_n (by omega) (fs_n (by omega) rfl))))) (ht1.2) ((rpn_fs (rpn_fs (rpn_fs (rpn_fs (rpn_fs (rpn_fs (rpn_fs (rpn_fs (rpn_fs (rpn_fs (rpn_fs (rpn_fs (rpn_fs (rpn_fs (rpn_fs (rpn_fs (rpn_fs (rpn_fs hpl s8_ (fun _ => (by first | exact fs_c rfl | exact (fs_n (by omega) (fs_n (by omega) rfl)))) (by first | exact fs_c rfl | exact (fs_n (by omega) (fs_n (by omega) rfl)))) s18_ (fun _ => (by first | exact fs_c rfl | exact (fs_n (by omega) (fs_n (by omega) rfl)))) (by first | exact fs_c rfl | exact (fs_n (by omega) (fs_n (by omega) rfl)))) s28_ (fun _ => (by first | exact fs_c rfl | exact (fs_n (by omega) (fs_n (by omega) rfl)))) (by first | exact fs_c rfl | exact (fs_n (by omega) (fs_n (by omega) rfl)))) s38_ (fun _ => (by first | exact fs_c rfl | exact (fs_n (by omega) (fs_n (by omega) rfl)))) (by first | exact fs_c rfl | exact (fs_n (by omega) (fs_n (by omega) rfl)))) s50_ (fun _ => (by first | exact fs_c rfl | exact (fs_n (by omega) rfl))) (by first | exact fs_c rfl | exact (fs_n (by omega) rfl))) s59_ (fun _ => (by first | exact fs_c rfl | exact (fs_n (by omega) rfl))) (by first | exact fs_c rfl | exact (fs_n (by omega) rfl))) s69_ (fun _ => (by first | exact fs_c rfl | exact (fs_n (by omega) (fs_n (by omega) rfl)))) (by first | exact fs_c rfl | exact (fs_n (by omega) (fs_n (by omega) rfl)))) s79_ (fun _ => (by first | exact fs_c rfl | exact (fs_n (by omega) (fs_n (by omega) rfl)))) (by first | exact fs_c rfl | exact (fs_n (by omega) (fs_n (by omega) rfl)))) s89_ (fun _ => (by first | exact fs_c rfl | exact (fs_n (by omega) (fs_n (by omega) rfl)))) (by first | exact fs_c rfl | exact (fs_n (by omega) (fs_n (by omega) rfl)))) s101_ (fun _ => (by first | exact fs_c rfl | exact (fs_n (by omega) rfl))) (by first | exact fs_c rfl | exact (fs_n (by omega) rfl))) s2039_ (fun _ => (by first | exact fs_c rfl | exact (fs_n (by omega) rfl))) (by first | exact fs_c rfl | exact (fs_n (by omega) rfl))) s2049_ (fun _ => (by first | exact fs_c rfl | exact (fs_n (by omega) (fs_n (by omega) rfl)))) (by first | exact fs_c rfl | exact (fs_n (by omega) (fs_n (by omega) rfl)))) s2059_ (fun _ => (by first | exact fs_c rfl | exact (fs_n (by omega) (fs_n (by omega) rfl)))) (by first | exact fs_c rfl | exact (fs_n (by omega) (fs_n (by omega) rfl)))) s2069_ (fun _ => (by first | exact fs_c rfl | exact (fs_n (by omega) (fs_n (by omega) rfl)))) (by first | exact fs_c rfl | exact (fs_n (by omega) (fs_n (by omega) rfl)))) hf_F1 (fun _ => (by first | exact fs_c rfl | exact (fs_n (by omega) (fs_n (by omega) (fs_n (by omega) (fs_n (by omega) rfl)))))) (by first | exact fs_c rfl | exact (fs_n (by omega) (fs_n (by omega) (fs_n (by omega) (fs_n (by omega) rfl)))))) s2089_ (fun _ => (by first | exact fs_c rfl | exact (fs_n (by omega) (fs_n (by omega) rfl)))) (by first | exact fs_c rfl | exact (fs_n (by omega) (fs_n (by omega) rfl)))) s2232_ (fun _ => (by first | exact fs_c rfl | exact (fs_n (by omega) (fs_n (by omega) rfl)))) (by first | exact fs_c rfl | exact (fs_n (by omega) (fs_n (by omega) rfl)))) s2242_ (fun _ => (by first | exact fs_c rfl | exact (fs_n (by omega) (fs_n (by omega) rfl)))) (by first | exact fs_c rfl | exact (fs_n (by omega) (fs_n (by omega) rfl))))) (⟨(rprd_fs (rprd_fs (rprd_fs (rprd_fs (rprd_fs (rprd_fs (rprd_fs (rprd_fs (rprd_fs (rprd_fs (rprd_fs (rprd_fs (rprd_fs (rprd_fs (rprd_fs (rprd_fs (rprd_fs (rprd_fs hps.1 s8_ (by first | exact fs_rg rfl | exact fun r j hj => (fs_n (by omega) (fs_n (by omega) rfl)))) s18_ (by first | exact fs_rg rfl | exact fun r j hj => (fs_n (by omega) (fs_n (by omega) rfl)))) s28_ (by first | exact fs_rg rfl | exact fun r j hj => (fs_n (by omega) (fs_n (by omega) rfl)))) s38_ (by first | exact fs_rg rfl | exact fun r j hj => (fs_n (by omega) (fs_n (by omega) rfl)))) s50_ (by first | exact fs_rg rfl | exact fun r j hj => (fs_n (by omega) rfl))) s59_ (by first | exact fs_rg rfl | exact fun r j hj => (fs_n (by omega) rfl))) s69_ (by first | exact fs_rg rfl | exact fun r j hj => (fs_n (by omega) (fs_n (by omega) rfl)))) s79_ (by first | exact fs_rg rfl | exact fun r j hj => (fs_n (by omega) (fs_n (by omega) rfl)))) s89_ (by first | exact fs_rg rfl | exact fun r j hj => (fs_n (by omega) (fs_n (by omega) rfl)))) s101_ (by first | exact fs_rg rfl | exact fun r j hj => (fs_n (by omega) rfl))) s2039_ (by first | exact fs_rg rfl | exact fun r j hj => (fs_n (by omega) rfl))) s2049_ (by first | exact fs_rg rfl | exact fun r j hj => (fs_n (by omega) (fs_n (by omega) rfl)))) s2059_ (by first | exact fs_rg rfl | exact fun r j hj => (fs_n (by omega) (fs_n (by omega) rfl)))) s2069_ (by first | exact fs_rg rfl | exact fun r j hj => (fs_n (by omega) (fs_n (by omega) rfl)))) hf_F1 (by first | exact fs_rg rfl | exact fun r j hj => (fs_n (by omega) (fs_n (by omega) (fs_n (by omega) (fs_n (by omega) rfl)))))) s2089_ (by first | exact fs_rg rfl | exact fun r j hj => (fs_n (by omega) (fs_n (by omega) rfl)))) s2232_ (by first | exact fs_rg rfl | exact fun r j hj => (fs_n (by omega) (fs_n (by omega) rfl)))) s2242_ (by first | exact fs_rg rfl | exact fun r j hj => (fs_n (by omega) (fs_n (by omega) rfl)))), hps.2⟩)) (fun _ _ h => False.elim h) ?_
        have b2247_ : 0 ≤ F2240_ 344 9 ∧ F2240_ 344 9 ≤ 5 := gi_g g2241_ rfl
        rintro A1_ ⟨F2250_, hA_, g2251_, s2252_, c2248_, c2249_⟩
        subst hA_
        have g2253_ : fs [(344, 344, 5, 5), (344, 344, 9, 10), (344, 344, 33, 33), (344, 344, 36, 36), (344, 344, 64, 64), (358, 358, 0, 100000), (360, 366, 0, 100000)] F F2250_ := fs_tr g2243_ s2252_ rfl
        have rk2254_ : rk K F2250_ := rk_fs rk2244_ s2252_ (fs_rg rfl) rfl
        refine ga_aload_n (v := .ref 344) hm_184 rfl rfl rfl ?_
        refine fl_bipush hm_184 rfl rfl ?_
        have b2255_ : 0 ≤ F2250_ 344 5 ∧ F2250_ 344 5 ≤ 600 := gi_g g2251_ rfl
        refine gVv (nY := 2) (F := 2) (L := 41) (As := [.int (Int32.ofInt 41)]) (b := 344) (rest := []) hm_184 rfl hm_51 rfl rfl (fl_ob sc_344) rfl rfl rfl rfl rfl (by omega) (by omega) (mc_51s hG F2250_ X g2251_ (K) (41) (1) hgK rk2254_ hkt (⟨by omega, by omega⟩) (by omega) (by omega)) (fun _ _ h => False.elim h) ?_
        have b2257_ : 0 ≤ F2250_ 344 9 ∧ F2250_ 344 9 ≤ 5 := gi_g g2251_ rfl
        rintro A1_ ⟨F2260_, hA_, g2261_, s2262_, c2258_, c2259_⟩
        subst hA_
        have g2263_ : fs [(344, 344, 5, 5), (344, 344, 9, 10), (344, 344, 33, 33), (344, 344, 36, 36), (344, 344, 64, 64), (358, 358, 0, 100000), (360, 366, 0, 100000)] F F2260_ := fs_tr g2253_ s2262_ rfl
        have rk2264_ : rk K F2260_ := rk_fs rk2254_ s2262_ (fs_rg rfl) rfl
        refine ga_aload_n (v := .ref 344) hm_184 rfl rfl rfl ?_
        refine fl_bipush hm_184 rfl rfl ?_
        have b2265_ : 0 ≤ F2260_ 344 5 ∧ F2260_ 344 5 ≤ 600 := gi_g g2261_ rfl
        refine gVv (nY := 2) (F := 2) (L := 41) (As := [.int (Int32.ofInt 40)]) (b := 344) (rest := []) hm_184 rfl hm_51 rfl rfl (fl_ob sc_344) rfl rfl rfl rfl rfl (by omega) (by omega) (mc_51s hG F2260_ X g2261_ (K) (40) (0) hgK rk2264_ hkt (⟨by omega, by omega⟩) (by omega) (by omega)) (fun _ _ h => False.elim h) ?_
        have b2267_ : 0 ≤ F2260_ 344 9 ∧ F2260_ 344 9 ≤ 5 := gi_g g2261_ rfl
        rintro A1_ ⟨F2270_, hA_, g2271_, s2272_, c2268_, c2269_⟩
        subst hA_
        have g2273_ : fs [(344, 344, 5, 5), (344, 344, 9, 10), (344, 344, 33, 33), (344, 344, 36, 36), (344, 344, 64, 64), (358, 358, 0, 100000), (360, 366, 0, 100000)] F F2270_ := fs_tr g2263_ s2272_ rfl
        have rk2274_ : rk K F2270_ := rk_fs rk2264_ s2272_ (fs_rg rfl) rfl
        refine ga_aload_n (v := .ref 344) hm_184 rfl rfl rfl ?_
        refine fl_bipush hm_184 rfl rfl ?_
        have b2275_ : 0 ≤ F2270_ 344 5 ∧ F2270_ 344 5 ≤ 600 := gi_g g2271_ rfl
        refine gVv (nY := 2) (F := 2) (L := 44) (As := [.int (Int32.ofInt 17)]) (b := 344) (rest := []) hm_184 rfl hm_55 rfl rfl (fl_ob sc_344) rfl rfl rfl rfl rfl (by omega) (by omega) (mc_55s hG F2270_ X g2271_ (K) (17) ([58, 103, 111, 97, 108]) hgK rk2274_ hkt (⟨by omega, by omega⟩) (⟨by omega, by omega⟩) (by decide) (kw_17 rk2274_)) (fun _ _ h => False.elim h) ?_
        have b2277_ : 0 ≤ F2270_ 344 9 ∧ F2270_ 344 9 ≤ 5 := gi_g g2271_ rfl
        rintro A1_ ⟨F2280_, hA_, g2281_, s2282_, c2278_, c2279_⟩
        subst hA_
        have g2283_ : fs [(344, 344, 5, 5), (344, 344, 9, 10), (344, 344, 33, 33), (344, 344, 36, 36), (344, 344, 64, 64), (358, 358, 0, 100000), (360, 366, 0, 100000)] F F2280_ := fs_tr g2273_ s2282_ rfl
        have rk2284_ : rk K F2280_ := rk_fs rk2274_ s2282_ (fs_rg rfl) rfl
        refine ga_aload_n (v := .ref 344) hm_184 rfl rfl rfl ?_
        refine ga_getr (b := 358) hm_184 rfl sc_344 rfl ?_
        refine fl_iconst hm_184 rfl ?_
        refine fl_iconst hm_184 rfl ?_
        refine fl_iast (z := 5) (v := 0) hm_184 rfl sc_358 (by omega) (by omega) (by omega) ?_
        refine ga_aload_n (v := .ref 344) hm_184 rfl rfl rfl ?_
        refine fl_iconst hm_184 rfl ?_
        refine fl_bipush hm_184 rfl rfl ?_
        obtain ⟨F2285_, q2286_⟩ : ∃ Fq_, Fq_ = (fl_u F2280_ 358 (5 : Int).toNat 0) := ⟨_, rfl⟩
        rw [← q2286_]
        have g2287_ : gi F2285_ := by rw [q2286_]; exact gi_u (g2281_) rfl (by omega) (by omega)
        have g2288_ : fs [(344, 344, 5, 5), (344, 344, 9, 10), (344, 344, 33, 33), (344, 344, 36, 36), (344, 344, 64, 64), (358, 358, 0, 100000), (360, 366, 0, 100000)] F F2285_ := by rw [q2286_]; exact fs_u (g2283_) rfl
        have rk2289_ : rk K F2285_ := by rw [q2286_]; exact rk_u (rk2284_) (by first | decide | exact nc_ rfl | omega) (by first | decide | exact nc_ rfl | omega)
        have e2290_ : F2285_ 344 5 = F2280_ 344 5 := by rw [q2286_]; exact fl_u_ne (by first | exact nc_ rfl | decide | omega)
        have b2291_ : 0 ≤ F2280_ 344 5 ∧ F2280_ 344 5 ≤ 600 := gi_g g2281_ rfl
        refine gVv (nY := 4) (F := 6) (L := 142) (As := [.int (Int32.ofInt 5), .int (Int32.ofInt 40)]) (b := 344) (rest := []) hm_184 rfl hm_175 rfl rfl (fl_ob sc_344) rfl rfl rfl rfl rfl (by omega) (by omega) (mc_175s hG F2285_ X g2287_ (K) (5) (40) (2) (l) (tl) (pl) (ps) hgK rk2289_ hkt (⟨by omega, by omega⟩) ((by rw [q2286_]; exact (trm_u (trm_fs (trm_fs (trm_fs (trm_fs (trm_fs (trm_fs (trm_fs ht1.1 s2089_ (by first | exact fs_rg rfl | exact fun r j hj => (fs_n (by omega) (fs_n (by omega) rfl)))) s2232_ (by first | exact fs_rg rfl | exact fun r j hj => (fs_n (by omega) (fs_n (by omega) rfl)))) s2242_ (by first | exact fs_rg rfl | exact fun r j hj => (fs_n (by omega) (fs_n (by omega) rfl)))) s2252_ (by first | exact fs_rg rfl | exact fun r j hj => (fs_n (by omega) (fs_n (by omega) (fs_n (by omega) (fs_n (by omega) rfl)))))) s2262_ (by first | exact fs_rg rfl | exact fun r j hj => (fs_n (by omega) (fs_n (by omega) rfl)))) s2272_ (by first | exact fs_rg rfl | exact fun r j hj => (fs_n (by omega) (fs_n (by omega) rfl)))) s2282_ (by first | exact fs_rg rfl | exact fun r j hj => (fs_n (by omega) (fs_n (by omega) rfl)))) (by first | decide | exact nc_ rfl | omega)))) (ht1.2) (⟨by omega, by omega⟩) ((by rw [q2286_]; exact (rpn_u (rpn_fs (rpn_fs (rpn_fs (rpn_fs (rpn_fs (rpn_fs (rpn_fs (rpn_fs (rpn_fs (rpn_fs (rpn_fs (rpn_fs (rpn_fs (rpn_fs (rpn_fs (rpn_fs (rpn_fs (rpn_fs (rpn_fs (rpn_fs (rpn_fs (rpn_fs hpl s8_ (fun _ => (by first | exact fs_c rfl | exact (fs_n (by omega) (fs_n (by omega) rfl)))) (by first | exact fs_c rfl | exact (fs_n (by omega) (fs_n (by omega) rfl)))) s18_ (fun _ => (by first | exact fs_c rfl | exact (fs_n (by omega) (fs_n (by omega) rfl)))) (by first | exact fs_c rfl | exact (fs_n (by omega) (fs_n (by omega) rfl)))) s28_ (fun _ => (by first | exact fs_c rfl | exact (fs_n (by omega) (fs_n (by omega) rfl)))) (by first | exact fs_c rfl | exact (fs_n (by omega) (fs_n (by omega) rfl)))) s38_ (fun _ => (by first | exact fs_c rfl | exact (fs_n (by omega) (fs_n (by omega) rfl)))) (by first | exact fs_c rfl | exact (fs_n (by omega) (fs_n (by omega) rfl)))) s50_ (fun _ => (by first | exact fs_c rfl | exact (fs_n (by omega) rfl))) (by first | exact fs_c rfl | exact (fs_n (by omega) rfl))) s59_ (fun _ => (by first | exact fs_c rfl | exact (fs_n (by omega) rfl))) (by first | exact fs_c rfl | exact (fs_n (by omega) rfl))) s69_ (fun _ => (by first | exact fs_c rfl | exact (fs_n (by omega) (fs_n (by omega) rfl)))) (by first | exact fs_c rfl | exact (fs_n (by omega) (fs_n (by omega) rfl)))) s79_ (fun _ => (by first | exact fs_c rfl | exact (fs_n (by omega) (fs_n (by omega) rfl)))) (by first | exact fs_c rfl | exact (fs_n (by omega) (fs_n (by omega) rfl)))) s89_ (fun _ => (by first | exact fs_c rfl | exact (fs_n (by omega) (fs_n (by omega) rfl)))) (by first | exact fs_c rfl | exact (fs_n (by omega) (fs_n (by omega) rfl)))) s101_ (fun _ => (by first | exact fs_c rfl | exact (fs_n (by omega) rfl))) (by first | exact fs_c rfl | exact (fs_n (by omega) rfl))) s2039_ (fun _ => (by first | exact fs_c rfl | exact (fs_n (by omega) rfl))) (by first | exact fs_c rfl | exact (fs_n (by omega) rfl))) s2049_ (fun _ => (by first | exact fs_c rfl | exact (fs_n (by omega) (fs_n (by omega) rfl)))) (by first | exact fs_c rfl | exact (fs_n (by omega) (fs_n (by omega) rfl)))) s2059_ (fun _ => (by first | exact fs_c rfl | exact (fs_n (by omega) (fs_n (by omega) rfl)))) (by first | exact fs_c rfl | exact (fs_n (by omega) (fs_n (by omega) rfl)))) s2069_ (fun _ => (by first | exact fs_c rfl | exact (fs_n (by omega) (fs_n (by omega) rfl)))) (by first | exact fs_c rfl | exact (fs_n (by omega) (fs_n (by omega) rfl)))) hf_F1 (fun _ => (by first | exact fs_c rfl | exact (fs_n (by omega) (fs_n (by omega) (fs_n (by omega) (fs_n (by omega) rfl)))))) (by first | exact fs_c rfl | exact (fs_n (by omega) (fs_n (by omega) (fs_n (by omega) (fs_n (by omega) rfl)))))) s2089_ (fun _ => (by first | exact fs_c rfl | exact (fs_n (by omega) (fs_n (by omega) rfl)))) (by first | exact fs_c rfl | exact (fs_n (by omega) (fs_n (by omega) rfl)))) s2232_ (fun _ => (by first | exact fs_c rfl | exact (fs_n (by omega) (fs_n (by omega) rfl)))) (by first | exact fs_c rfl | exact (fs_n (by omega) (fs_n (by omega) rfl)))) s2242_ (fun _ => (by first | exact fs_c rfl | exact (fs_n (by omega) (fs_n (by omega) rfl)))) (by first | exact fs_c rfl | exact (fs_n (by omega) (fs_n (by omega) rfl)))) s2252_ (fun _ => (by first | exact fs_c rfl | exact (fs_n (by omega) (fs_n (by omega) (fs_n (by omega) (fs_n (by omega) rfl)))))) (by first | exact fs_c rfl | exact (fs_n (by omega) (fs_n (by omega) (fs_n (by omega) (fs_n (by omega) rfl)))))) s2262_ (fun _ => (by first | exact fs_c rfl | exact (fs_n (by omega) (fs_n (by omega) rfl)))) (by first | exact fs_c rfl | exact (fs_n (by omega) (fs_n (by omega) rfl)))) s2272_ (fun _ => (by first | exact fs_c rfl | exact (fs_n (by omega) (fs_n (by omega) rfl)))) (by first | exact fs_c rfl | exact (fs_n (by omega) (fs_n (by omega) rfl)))) s2282_ (fun _ => (by first | exact fs_c rfl | exact (fs_n (by omega) (fs_n (by omega) rfl)))) (by first | exact fs_c rfl | exact (fs_n (by omega) (fs_n (by omega) rfl)))) (by first | decide | exact nc_ rfl | omega) (by first | decide | exact nc_ rfl | omega)))) (⟨(by rw [q2286_]; exact (rprd_u (rprd_fs (rprd_fs (rprd_fs (rprd_fs (rprd_fs (rprd_fs (rprd_fs (rprd_fs (rprd_fs (rprd_fs (rprd_fs (rprd_fs (rprd_fs (rprd_fs (rprd_fs (rprd_fs (rprd_fs (rprd_fs (rprd_fs (rprd_fs (rprd_fs (rprd_fs hps.1 s8_ (by first | exact fs_rg rfl | exact fun r j hj => (fs_n (by omega) (fs_n (by omega) rfl)))) s18_ (by first | exact fs_rg rfl | exact fun r j hj => (fs_n (by omega) (fs_n (by omega) rfl)))) s28_ (by first | exact fs_rg rfl | exact fun r j hj => (fs_n (by omega) (fs_n (by omega) rfl)))) s38_ (by first | exact fs_rg rfl | exact fun r j hj => (fs_n (by omega) (fs_n (by omega) rfl)))) s50_ (by first | exact fs_rg rfl | exact fun r j hj => (fs_n (by omega) rfl))) s59_ (by first | exact fs_rg rfl | exact fun r j hj => (fs_n (by omega) rfl))) s69_ (by first | exact fs_rg rfl | exact fun r j hj => (fs_n (by omega) (fs_n (by omega) rfl)))) s79_ (by first | exact fs_rg rfl | exact fun r j hj => (fs_n (by omega) (fs_n (by omega) rfl)))) s89_ (by first | exact fs_rg rfl | exact fun r j hj => (fs_n (by omega) (fs_n (by omega) rfl)))) s101_ (by first | exact fs_rg rfl | exact fun r j hj => (fs_n (by omega) rfl))) s2039_ (by first | exact fs_rg rfl | exact fun r j hj => (fs_n (by omega) rfl))) s2049_ (by first | exact fs_rg rfl | exact fun r j hj => (fs_n (by omega) (fs_n (by omega) rfl)))) s2059_ (by first | exact fs_rg rfl | exact fun r j hj => (fs_n (by omega) (fs_n (by omega) rfl)))) s2069_ (by first | exact fs_rg rfl | exact fun r j hj => (fs_n (by omega) (fs_n (by omega) rfl)))) hf_F1 (by first | exact fs_rg rfl | exact fun r j hj => (fs_n (by omega) (fs_n (by omega) (fs_n (by omega) (fs_n (by omega) rfl)))))) s2089_ (by first | exact fs_rg rfl | exact fun r j hj => (fs_n (by omega) (fs_n (by omega) rfl)))) s2232_ (by first | exact fs_rg rfl | exact fun r j hj => (fs_n (by omega) (fs_n (by omega) rfl)))) s2242_ (by first | exact fs_rg rfl | exact fun r j hj => (fs_n (by omega) (fs_n (by omega) rfl)))) s2252_ (by first | exact fs_rg rfl | exact fun r j hj => (fs_n (by omega) (fs_n (by omega) (fs_n (by omega) (fs_n (by omega) rfl)))))) s2262_ (by first | exact fs_rg rfl | exact fun r j hj => (fs_n (by omega) (fs_n (by omega) rfl)))) s2272_ (by first | exact fs_rg rfl | exact fun r j hj => (fs_n (by omega) (fs_n (by omega) rfl)))) s2282_ (by first | exact fs_rg rfl | exact fun r j hj => (fs_n (by omega) (fs_n (by omega) rfl)))) (by first | decide | exact nc_ rfl | omega))), hps.2⟩) (⟨by omega, by omega⟩) (Or.inr (by omega)) (by rw [q2286_]; exact fl_u_eq)) (fun _ _ h => False.elim h) ?_
        have e2293_ : F2285_ 344 9 = F2280_ 344 9 := by rw [q2286_]; exact fl_u_ne (by first | exact nc_ rfl | decide | omega)
        have b2294_ : 0 ≤ F2280_ 344 9 ∧ F2280_ 344 9 ≤ 5 := gi_g g2281_ rfl
        rintro A1_ ⟨F2297_, hA_, g2298_, s2299_, c2295_, c2296_⟩
        subst hA_
        have g2300_ : fs [(344, 344, 5, 5), (344, 344, 9, 10), (344, 344, 33, 33), (344, 344, 36, 36), (344, 344, 64, 64), (358, 358, 0, 100000), (360, 366, 0, 100000)] F F2297_ := fs_tr g2288_ s2299_ rfl
        have rk2301_ : rk K F2297_ := rk_fs rk2289_ s2299_ (fs_rg rfl) rfl
        try simp only [e2293_] at c2295_
        refine ga_aload_n (v := .ref 344) hm_184 rfl rfl rfl ?_
        refine fl_bipush hm_184 rfl rfl ?_
        have b2302_ : 0 ≤ F2297_ 344 5 ∧ F2297_ 344 5 ≤ 600 := gi_g g2298_ rfl
        refine gVv (nY := 2) (F := 2) (L := 41) (As := [.int (Int32.ofInt 41)]) (b := 344) (rest := []) hm_184 rfl hm_51 rfl rfl (fl_ob sc_344) rfl rfl rfl rfl rfl (by omega) (by omega) (mc_51s hG F2297_ X g2298_ (K) (41) (1) hgK rk2301_ hkt (⟨by omega, by omega⟩) (by omega) (by omega)) (fun _ _ h => False.elim h) ?_
        have b2304_ : 0 ≤ F2297_ 344 9 ∧ F2297_ 344 9 ≤ 5 := gi_g g2298_ rfl
        rintro A1_ ⟨F2307_, hA_, g2308_, s2309_, c2305_, c2306_⟩
        subst hA_
        have g2310_ : fs [(344, 344, 5, 5), (344, 344, 9, 10), (344, 344, 33, 33), (344, 344, 36, 36), (344, 344, 64, 64), (358, 358, 0, 100000), (360, 366, 0, 100000)] F F2307_ := fs_tr g2300_ s2309_ rfl
        have rk2311_ : rk K F2307_ := rk_fs rk2301_ s2309_ (fs_rg rfl) rfl
        refine ga_aload_n (v := .ref 344) hm_184 rfl rfl rfl ?_
        refine fl_bipush hm_184 rfl rfl ?_
        have b2312_ : 0 ≤ F2307_ 344 5 ∧ F2307_ 344 5 ≤ 600 := gi_g g2308_ rfl
        refine gVv (nY := 2) (F := 2) (L := 41) (As := [.int (Int32.ofInt 41)]) (b := 344) (rest := []) hm_184 rfl hm_51 rfl rfl (fl_ob sc_344) rfl rfl rfl rfl rfl (by omega) (by omega) (mc_51s hG F2307_ X g2308_ (K) (41) (1) hgK rk2311_ hkt (⟨by omega, by omega⟩) (by omega) (by omega)) (fun _ _ h => False.elim h) ?_
        have b2314_ : 0 ≤ F2307_ 344 9 ∧ F2307_ 344 9 ≤ 5 := gi_g g2308_ rfl
        rintro A1_ ⟨F2317_, hA_, g2318_, s2319_, c2315_, c2316_⟩
        subst hA_
        have g2320_ : fs [(344, 344, 5, 5), (344, 344, 9, 10), (344, 344, 33, 33), (344, 344, 36, 36), (344, 344, 64, 64), (358, 358, 0, 100000), (360, 366, 0, 100000)] F F2317_ := fs_tr g2310_ s2319_ rfl
        have rk2321_ : rk K F2317_ := rk_fs rk2311_ s2319_ (fs_rg rfl) rfl
        refine ga_aload_n (v := .ref 344) hm_184 rfl rfl rfl ?_
        refine gIi (nY := 1) (F := 0) (L := 0) (As := []) (b := 344) (rest := []) hm_184 rfl hm_59 rfl rfl (fl_ob sc_344) rfl rfl rfl rfl rfl (by omega) (by omega) ?_
        intro f2322_ l2323_ h2324_ h2325_
        show fl_R xi_ms 59 f2322_ l2323_ 0 [(0, .ref 344)] [] _ _
        refine ga_aload_n (v := .ref 344) hm_59 rfl rfl rfl ?_
        have b2326_ : 0 ≤ F2317_ 344 9 ∧ F2317_ 344 9 ≤ 5 := gi_g g2318_ rfl
        refine ga_geti (z := F2317_ 344 9) hm_59 rfl sc_344 rfl (rfl) ?_
        refine fl_if_le (a := F2317_ 344 9) hm_59 rfl ⟨by omega, by omega⟩ (fun h2327_ => ?_) (fun h2328_ => ?_)
        ·
          refine fl_iconst hm_59 rfl ?_
          refine gr_i hm_59 rfl rfl (ga_nb (by omega)) ?_
          clear h2324_ h2325_ f2322_ l2323_
          refine fl_if_ne hm_184 rfl ⟨by omega, by omega⟩ (fun h => absurd h (by omega)) (fun _ => ?_)
          refine ga_aload_n (v := .ref 344) hm_184 rfl rfl rfl ?_
          have b2329_ : 0 ≤ F2317_ 344 5 ∧ F2317_ 344 5 ≤ 600 := gi_g g2318_ rfl
          refine ga_geti (z := F2317_ 344 5) hm_184 rfl sc_344 rfl (rfl) ?_
          refine ga_aload_n (v := .ref 344) hm_184 rfl rfl rfl ?_
          have e2330_ : F2317_ 344 4 = K 1 6 - 1 := rk2321_.2.1
          refine ga_geti (z := K 1 6 - 1) hm_184 rfl sc_344 rfl (e2330_) ?_
          refine fl_icmp_ge (a := F2317_ 344 5) (b := K 1 6 - 1) hm_184 rfl ⟨by omega, by omega⟩ ⟨by omega, by omega⟩ (fun h2331_ => ?_) (fun h2332_ => ?_)
          ·
            refine gr_v hm_184 rfl rfl ?_
            exact ⟨F2317_, rfl, g2318_, g2320_, (⟨by omega, by omega⟩)⟩
          refine ga_aload_n (v := .ref 344) hm_184 rfl rfl rfl ?_
          refine fl_iconst hm_184 rfl ?_
          refine gVv (nY := 2) (F := 0) (L := 0) (As := [.int (Int32.ofInt 1)]) (b := 344) (rest := []) hm_184 rfl hm_54 rfl rfl (fl_ob sc_344) rfl rfl rfl rfl rfl (by omega) (by omega) (mc_54 hG F2317_ X g2318_ (K) (1) hgK rk2321_ hkt (⟨by omega, by omega⟩) (⟨by omega, by omega⟩)) (fun _ _ h => False.elim h) ?_
          have b2334_ : 0 ≤ F2317_ 344 10 ∧ F2317_ 344 10 ≤ 600 := gi_g g2318_ rfl
          rintro A1_ ⟨F2338_, hA_, g2339_, s2340_, c2335_, c2336_, c2337_⟩
          subst hA_
          have g2341_ : fs [(344, 344, 5, 5), (344, 344, 9, 10), (344, 344, 33, 33), (344, 344, 36, 36), (344, 344, 64, 64), (358, 358, 0, 100000), (360, 366, 0, 100000)] F F2338_ := fs_tr g2320_ s2340_ rfl
          have rk2342_ : rk K F2338_ := rk_fs rk2321_ s2340_ (fs_rg rfl) rfl
          have c2336_s := c2336_.1 (by omega)
          clear c2336_
          refine gr_v hm_184 rfl rfl ?_
          have e2343_ : F2338_ 344 5 = F2317_ 344 5 := (s2340_ 344 5 rfl).trans (rfl)
          exact ⟨F2338_, rfl, g2339_, g2341_, (⟨by omega, by omega⟩)⟩
        refine fl_iconst hm_59 rfl ?_
        refine fl_goto hm_59 rfl ?_
        refine gr_i hm_59 rfl rfl (ga_nb (by omega)) ?_
        clear h2324_ h2325_ f2322_ l2323_
        refine fl_if_ne hm_184 rfl ⟨by omega, by omega⟩ (fun _ => ?_) (fun h => absurd (by omega) h)
        refine gr_v hm_184 rfl rfl ?_
        have b2344_ : 0 ≤ F2317_ 344 5 ∧ F2317_ 344 5 ≤ 600 := gi_g g2318_ rfl
        exact ⟨F2317_, rfl, g2318_, g2320_, (⟨by omega, by omega⟩)⟩
      refine ga_aload_n (v := .ref 344) hm_184 rfl rfl rfl ?_
      refine gIi (nY := 1) (F := 0) (L := 0) (As := []) (b := 344) (rest := []) hm_184 rfl hm_59 rfl rfl (fl_ob sc_344) rfl rfl rfl rfl rfl (by omega) (by omega) ?_
      intro f2345_ l2346_ h2347_ h2348_
      show fl_R xi_ms 59 f2345_ l2346_ 0 [(0, .ref 344)] [] _ _
      refine ga_aload_n (v := .ref 344) hm_59 rfl rfl rfl ?_
      have b2349_ : 0 ≤ F1 344 9 ∧ F1 344 9 ≤ 5 := gi_g hg_F1 rfl
      refine ga_geti (z := F1 344 9) hm_59 rfl sc_344 rfl (rfl) ?_
      refine fl_if_le (a := F1 344 9) hm_59 rfl ⟨by omega, by omega⟩ (fun h2350_ => ?_) (fun h2351_ => ?_)
      ·
        refine fl_iconst hm_59 rfl ?_
        refine gr_i hm_59 rfl rfl (ga_nb (by omega)) ?_
        clear h2347_ h2348_ f2345_ l2346_
        refine fl_if_ne hm_184 rfl ⟨by omega, by omega⟩ (fun h => absurd h (by omega)) (fun _ => ?_)
        refine ga_aload_n (v := .ref 344) hm_184 rfl rfl rfl ?_
        have b2352_ : 0 ≤ F1 344 5 ∧ F1 344 5 ≤ 600 := gi_g hg_F1 rfl
        refine gVv (nY := 3) (F := 4) (L := 89) (As := []) (b := 344) (rest := []) hm_184 rfl hm_180 rfl rfl (fl_ob sc_344) rfl rfl rfl rfl rfl (by omega) (by omega) (mc_180 hG F1 X hg_F1 (K) (ts) (l) (tl) hgK rk2079_ hkt (⟨by omega, by omega⟩) ((rpn_fs (rpn_fs (rpn_fs (rpn_fs (rpn_fs (rpn_fs (rpn_fs (rpn_fs (rpn_fs (rpn_fs (rpn_fs (rpn_fs (rpn_fs (rpn_fs (rpn_fs hts s8_ (fun _ => (by first | exact fs_c rfl | exact (fs_n (by omega) (fs_n (by omega) rfl)))) (by first | exact fs_c rfl | exact (fs_n (by omega) (fs_n (by omega) rfl)))) s18_ (fun _ => (by first | exact fs_c rfl | exact (fs_n (by omega) (fs_n (by omega) rfl)))) (by first | exact fs_c rfl | exact (fs_n (by omega) (fs_n (by omega) rfl)))) s28_ (fun _ => (by first | exact fs_c rfl | exact (fs_n (by omega) (fs_n (by omega) rfl)))) (by first | exact fs_c rfl | exact (fs_n (by omega) (fs_n (by omega) rfl)))) s38_ (fun _ => (by first | exact fs_c rfl | exact (fs_n (by omega) (fs_n (by omega) rfl)))) (by first | exact fs_c rfl | exact (fs_n (by omega) (fs_n (by omega) rfl)))) s50_ (fun _ => (by first | exact fs_c rfl | exact (fs_n (by omega) rfl))) (by first | exact fs_c rfl | exact (fs_n (by omega) rfl))) s59_ (fun _ => (by first | exact fs_c rfl | exact (fs_n (by omega) rfl))) (by first | exact fs_c rfl | exact (fs_n (by omega) rfl))) s69_ (fun _ => (by first | exact fs_c rfl | exact (fs_n (by omega) (fs_n (by omega) rfl)))) (by first | exact fs_c rfl | exact (fs_n (by omega) (fs_n (by omega) rfl)))) s79_ (fun _ => (by first | exact fs_c rfl | exact (fs_n (by omega) (fs_n (by omega) rfl)))) (by first | exact fs_c rfl | exact (fs_n (by omega) (fs_n (by omega) rfl)))) s89_ (fun _ => (by first | exact fs_c rfl | exact (fs_n (by omega) (fs_n (by omega) rfl)))) (by first | exact fs_c rfl | exact (fs_n (by omega) (fs_n (by omega) rfl)))) s101_ (fun _ => (by first | exact fs_c rfl | exact (fs_n (by omega) rfl))) (by first | exact fs_c rfl | exact (fs_n (by omega) rfl))) s2039_ (fun _ => (by first | exact fs_c rfl | exact (fs_n (by omega) rfl))) (by first | exact fs_c rfl | exact (fs_n (by omega) rfl))) s2049_ (fun _ => (by first | exact fs_c rfl | exact (fs_n (by omega) (fs_n (by omega) rfl)))) (by first | exact fs_c rfl | exact (fs_n (by omega) (fs_n (by omega) rfl)))) s2059_ (fun _ => (by first | exact fs_c rfl | exact (fs_n (by omega) (fs_n (by omega) rfl)))) (by first | exact fs_c rfl | exact (fs_n (by omega) (fs_n (by omega) rfl)))) s2069_ (fun _ => (by first | exact fs_c rfl | exact (fs_n (by omega) (fs_n (by omega) rfl)))) (by first | exact fs_c rfl | exact (fs_n (by omega) (fs_n (by omega) rfl)))) hf_F1 (fun _ => (by first | exact fs_c rfl | exact (fs_n (by omega) (fs_n (by omega) (fs_n (by omega) (fs_n (by omega) rfl)))))) (by first | exact fs_c rfl | exact (fs_n (by omega) (fs_n (by omega) (fs_n (by omega) (fs_n (by omega) rfl))))))) (ht1.1) (ht1.2)) (fun _ _ h => False.elim h) ?_
        have b2354_ : 0 ≤ F1 344 33 ∧ F1 344 33 ≤ 6 := gi_g hg_F1 rfl
        rintro A1_ ⟨F2359_, hA_, g2360_, s2361_, c2355_, c2356_, c2357_, c2358_⟩
        subst hA_
        have g2362_ : fs [(344, 344, 5, 5), (344, 344, 9, 10), (344, 344, 33, 33), (344, 344, 36, 36), (344, 344, 64, 64), (358, 358, 0, 100000), (360, 366, 0, 100000)] F F2359_ := fs_tr g2078_ s2361_ rfl
        have rk2363_ : rk K F2359_ := rk_fs rk2079_ s2361_ (fs_rg rfl) rfl
        obtain ⟨l2_, tl2_, ht2_⟩ := c2357_
        have b2364_ : 0 ≤ F2359_ 344 9 ∧ F2359_ 344 9 ≤ 5 := gi_g g2360_ rfl
        by_cases h2365_ : F2359_ 344 9 = 0
        ·
          refine ga_aload_n (v := .ref 344) hm_184 rfl rfl rfl ?_
          refine fl_bipush hm_184 rfl rfl ?_
          have b2366_ : 0 ≤ F2359_ 344 5 ∧ F2359_ 344 5 ≤ 600 := gi_g g2360_ rfl
          refine gVi (nY := 2) (F := 1) (L := 20) (As := [.int (Int32.ofInt 41)]) (b := 344) (rest := []) hm_184 rfl hm_52 rfl rfl (fl_ob sc_344) rfl rfl rfl rfl rfl (by omega) (by omega) (mc_52 hG F2359_ X g2360_ (K) (41) hgK rk2363_ hkt (⟨by omega, by omega⟩) (by omega)) (fun _ _ h => False.elim h) ?_
          rintro z2367_ A1_ (⟨hA_, hz_, c2368_⟩ | ⟨hA_, hz_, c2369_, c2370_⟩)
          ·
            subst hA_
            subst hz_
            refine fl_if_ne hm_184 rfl ⟨by omega, by omega⟩ (fun h => absurd h (by omega)) (fun _ => ?_)
            refine fl_iconst hm_184 rfl ?_
            refine fl_goto hm_184 rfl ?_
            refine ga_istore_n (lv2 := [(3, .int (Int32.ofInt 1)), (1, .long (Int64.ofInt z93_)), (0, .ref 344)]) hm_184 rfl (Nat.le_of_ble_eq_true rfl) rfl ?_
            refine fl_goto hm_184 rfl ?_
            have b2371_ : 0 ≤ K 1 6 ∧ K 1 6 ≤ 601 := gi_g hgK rfl
            have e2372_ : F6_ 5 2 = F 5 2 := (s8_ 5 2 rfl).trans (rfl)
            have e2373_ : F16_ 5 2 = F 5 2 := (s18_ 5 2 rfl).trans (e2372_)
            have e2374_ : F26_ 5 2 = F 5 2 := (s28_ 5 2 rfl).trans (e2373_)
            have e2375_ : F36_ 5 2 = F 5 2 := (s38_ 5 2 rfl).trans (e2374_)
            have e2376_ : F48_ 5 2 = F 5 2 := (s50_ 5 2 rfl).trans (e2375_)
            have e2377_ : F57_ 5 2 = F 5 2 := (s59_ 5 2 rfl).trans (e2376_)
            have e2378_ : F67_ 5 2 = F 5 2 := (s69_ 5 2 rfl).trans (e2377_)
            have e2379_ : F77_ 5 2 = F 5 2 := (s79_ 5 2 rfl).trans (e2378_)
            have e2380_ : F87_ 5 2 = F 5 2 := (s89_ 5 2 rfl).trans (e2379_)
            have e2381_ : F99_ 5 2 = F 5 2 := (s101_ 5 2 rfl).trans (e2380_)
            have e2382_ : F2037_ 5 2 = F 5 2 := (s2039_ 5 2 rfl).trans (e2381_)
            have e2383_ : F2047_ 5 2 = F 5 2 := (s2049_ 5 2 rfl).trans (e2382_)
            have e2384_ : F2057_ 5 2 = F 5 2 := (s2059_ 5 2 rfl).trans (e2383_)
            have e2385_ : F2067_ 5 2 = F 5 2 := (s2069_ 5 2 rfl).trans (e2384_)
            have e2386_ : F1 5 2 = F 5 2 := (hf_F1 5 2 rfl).trans (e2385_)
            have e2387_ : F2359_ 5 2 = F 5 2 := (s2361_ 5 2 rfl).trans (e2386_)
            have b2388_ : 0 ≤ F 5 2 ∧ F 5 2 ≤ 600 := gi_g hgi rfl
            have b2389_ : 0 ≤ F2359_ 344 33 ∧ F2359_ 344 33 ≤ 6 := gi_g g2360_ rfl
            exact ih2076_ _ (by omega) (1) (l2_) (tl2_) F2359_ rfl g2360_ (fs_tr hf_F1 s2361_ rfl) (by omega) (⟨by omega, by omega⟩) (⟨by omega, by omega⟩) (ht2_)
          subst hA_
          subst hz_
          refine fl_if_ne hm_184 rfl ⟨by omega, by omega⟩ (fun _ => ?_) (fun h => absurd (by omega) h)
          refine fl_iconst hm_184 rfl ?_
          refine ga_istore_n (lv2 := [(3, .int (Int32.ofInt 0)), (1, .long (Int64.ofInt z93_)), (0, .ref 344)]) hm_184 rfl (Nat.le_of_ble_eq_true rfl) rfl ?_
          refine fl_goto hm_184 rfl ?_
          have b2390_ : 0 ≤ K 1 6 ∧ K 1 6 ≤ 601 := gi_g hgK rfl
          have e2391_ : F6_ 5 2 = F 5 2 := (s8_ 5 2 rfl).trans (rfl)
          have e2392_ : F16_ 5 2 = F 5 2 := (s18_ 5 2 rfl).trans (e2391_)
          have e2393_ : F26_ 5 2 = F 5 2 := (s28_ 5 2 rfl).trans (e2392_)
          have e2394_ : F36_ 5 2 = F 5 2 := (s38_ 5 2 rfl).trans (e2393_)
          have e2395_ : F48_ 5 2 = F 5 2 := (s50_ 5 2 rfl).trans (e2394_)
          have e2396_ : F57_ 5 2 = F 5 2 := (s59_ 5 2 rfl).trans (e2395_)
          have e2397_ : F67_ 5 2 = F 5 2 := (s69_ 5 2 rfl).trans (e2396_)
          have e2398_ : F77_ 5 2 = F 5 2 := (s79_ 5 2 rfl).trans (e2397_)
          have e2399_ : F87_ 5 2 = F 5 2 := (s89_ 5 2 rfl).trans (e2398_)
          have e2400_ : F99_ 5 2 = F 5 2 := (s101_ 5 2 rfl).trans (e2399_)
          have e2401_ : F2037_ 5 2 = F 5 2 := (s2039_ 5 2 rfl).trans (e2400_)
          have e2402_ : F2047_ 5 2 = F 5 2 := (s2049_ 5 2 rfl).trans (e2401_)
          have e2403_ : F2057_ 5 2 = F 5 2 := (s2059_ 5 2 rfl).trans (e2402_)
          have e2404_ : F2067_ 5 2 = F 5 2 := (s2069_ 5 2 rfl).trans (e2403_)
          have e2405_ : F1 5 2 = F 5 2 := (hf_F1 5 2 rfl).trans (e2404_)
          have e2406_ : F2359_ 5 2 = F 5 2 := (s2361_ 5 2 rfl).trans (e2405_)
          have b2407_ : 0 ≤ F 5 2 ∧ F 5 2 ≤ 600 := gi_g hgi rfl
          have b2408_ : 0 ≤ F2359_ 344 33 ∧ F2359_ 344 33 ≤ 6 := gi_g g2360_ rfl
          exact ih2076_ _ (by omega) (0) (l2_) (tl2_) F2359_ rfl g2360_ (fs_tr hf_F1 s2361_ rfl) (by omega) (⟨by omega, by omega⟩) (⟨by omega, by omega⟩) (ht2_)
        refine ga_aload_n (v := .ref 344) hm_184 rfl rfl rfl ?_
        refine fl_bipush hm_184 rfl rfl ?_
        have b2409_ : 0 ≤ F2359_ 344 5 ∧ F2359_ 344 5 ≤ 600 := gi_g g2360_ rfl
        refine gVi (nY := 2) (F := 1) (L := 20) (As := [.int (Int32.ofInt 41)]) (b := 344) (rest := []) hm_184 rfl hm_52 rfl rfl (fl_ob sc_344) rfl rfl rfl rfl rfl (by omega) (by omega) (mc_52 hG F2359_ X g2360_ (K) (41) hgK rk2363_ hkt (⟨by omega, by omega⟩) (by omega)) (fun _ _ h => False.elim h) ?_
        rintro z2410_ A1_ (⟨hA_, hz_, c2411_⟩ | ⟨hA_, hz_, c2412_, c2413_⟩)
        ·
          subst hA_
          subst hz_
          refine fl_if_ne hm_184 rfl ⟨by omega, by omega⟩ (fun h => absurd h (by omega)) (fun _ => ?_)
          refine fl_iconst hm_184 rfl ?_
          refine fl_goto hm_184 rfl ?_
          refine ga_istore_n (lv2 := [(3, .int (Int32.ofInt 1)), (1, .long (Int64.ofInt z93_)), (0, .ref 344)]) hm_184 rfl (Nat.le_of_ble_eq_true rfl) rfl ?_
          refine fl_goto hm_184 rfl ?_
          refine ga_iload_n (z := 1) hm_184 rfl rfl ?_
          refine fl_if_eq hm_184 rfl ⟨by omega, by omega⟩ (fun h => absurd h (by omega)) (fun _ => ?_)
          refine ga_aload_n (v := .ref 344) hm_184 rfl rfl rfl ?_
          refine gIi (nY := 1) (F := 0) (L := 0) (As := []) (b := 344) (rest := []) hm_184 rfl hm_59 rfl rfl (fl_ob sc_344) rfl rfl rfl rfl rfl (by omega) (by omega) ?_
          intro f2414_ l2415_ h2416_ h2417_
          show fl_R xi_ms 59 f2414_ l2415_ 0 [(0, .ref 344)] [] _ _
          refine ga_aload_n (v := .ref 344) hm_59 rfl rfl rfl ?_
          refine ga_geti (z := F2359_ 344 9) hm_59 rfl sc_344 rfl (rfl) ?_
          refine fl_if_le (a := F2359_ 344 9) hm_59 rfl ⟨by omega, by omega⟩ (fun h2418_ => ?_) (fun h2419_ => ?_)
          · exfalso; omega
          refine fl_iconst hm_59 rfl ?_
          refine fl_goto hm_59 rfl ?_
          refine gr_i hm_59 rfl rfl (ga_nb (by omega)) ?_
          clear h2416_ h2417_ f2414_ l2415_
          refine fl_if_ne hm_184 rfl ⟨by omega, by omega⟩ (fun _ => ?_) (fun h => absurd (by omega) h)
          refine ga_aload_n (v := .ref 344) hm_184 rfl rfl rfl ?_
          refine fl_bipush hm_184 rfl rfl ?_
          refine gVv (nY := 2) (F := 2) (L := 41) (As := [.int (Int32.ofInt 41)]) (b := 344) (rest := []) hm_184 rfl hm_51 rfl rfl (fl_ob sc_344) rfl rfl rfl rfl rfl (by omega) (by omega) (mc_51s hG F2359_ X g2360_ (K) (41) (1) hgK rk2363_ hkt (⟨by omega, by omega⟩) (by omega) (by omega)) (fun _ _ h => False.elim h) ?_
          rintro A1_ ⟨F2423_, hA_, g2424_, s2425_, c2421_, c2422_⟩
          subst hA_
          have g2426_ : fs [(344, 344, 5, 5), (344, 344, 9, 10), (344, 344, 33, 33), (344, 344, 36, 36), (344, 344, 64, 64), (358, 358, 0, 100000), (360, 366, 0, 100000)] F F2423_ := fs_tr g2362_ s2425_ rfl
          have rk2427_ : rk K F2423_ := rk_fs rk2363_ s2425_ (fs_rg rfl) rfl
          refine ga_aload_n (v := .ref 344) hm_184 rfl rfl rfl ?_
          refine gIi (nY := 1) (F := 0) (L := 0) (As := []) (b := 344) (rest := []) hm_184 rfl hm_59 rfl rfl (fl_ob sc_344) rfl rfl rfl rfl rfl (by omega) (by omega) ?_
          intro f2428_ l2429_ h2430_ h2431_
          show fl_R xi_ms 59 f2428_ l2429_ 0 [(0, .ref 344)] [] _ _
          refine ga_aload_n (v := .ref 344) hm_59 rfl rfl rfl ?_
          have b2432_ : 0 ≤ F2423_ 344 9 ∧ F2423_ 344 9 ≤ 5 := gi_g g2424_ rfl
          refine ga_geti (z := F2423_ 344 9) hm_59 rfl sc_344 rfl (rfl) ?_
          refine fl_if_le (a := F2423_ 344 9) hm_59 rfl ⟨by omega, by omega⟩ (fun h2433_ => ?_) (fun h2434_ => ?_)
          ·
            refine fl_iconst hm_59 rfl ?_
            refine gr_i hm_59 rfl rfl (ga_nb (by omega)) ?_
            clear h2430_ h2431_ f2428_ l2429_
            refine fl_if_ne hm_184 rfl ⟨by omega, by omega⟩ (fun h => absurd h (by omega)) (fun _ => ?_)
            refine ga_aload_n (v := .ref 344) hm_184 rfl rfl rfl ?_
            refine gVv (nY := 6) (F := 1) (L := 22) (As := []) (b := 344) (rest := []) hm_184 rfl hm_171 rfl rfl (fl_ob sc_344) rfl rfl rfl rfl rfl (by omega) (by omega) (mc_171 hG F2423_ X g2424_) (fun _ _ h => False.elim h) ?_
            rintro A1_ ⟨F2436_, hA_, g2437_, s2438_⟩
            subst hA_
            have g2439_ : fs [(344, 344, 5, 5), (344, 344, 9, 10), (344, 344, 33, 33), (344, 344, 36, 36), (344, 344, 64, 64), (358, 358, 0, 100000), (360, 366, 0, 100000)] F F2436_ := fs_tr g2426_ s2438_ rfl
            have rk2440_ : rk K F2436_ := rk_fs rk2427_ s2438_ (fs_rg rfl) rfl
            refine ga_aload_n (v := .ref 344) hm_184 rfl rfl rfl ?_
            refine fl_bipush hm_184 rfl rfl ?_
            have e2441_ : F2436_ 344 5 = F2423_ 344 5 := (s2438_ 344 5 rfl).trans (rfl)
            have b2442_ : 0 ≤ F2423_ 344 5 ∧ F2423_ 344 5 ≤ 600 := gi_g g2424_ rfl
            refine gVv (nY := 2) (F := 2) (L := 41) (As := [.int (Int32.ofInt 40)]) (b := 344) (rest := []) hm_184 rfl hm_51 rfl rfl (fl_ob sc_344) rfl rfl rfl rfl rfl (by omega) (by omega) (mc_51s hG F2436_ X g2437_ (K) (40) (0) hgK rk2440_ hkt (⟨by omega, by omega⟩) (by omega) (by omega)) (fun _ _ h => False.elim h) ?_
            have e2444_ : F2436_ 344 9 = F2423_ 344 9 := (s2438_ 344 9 rfl).trans (rfl)
            rintro A1_ ⟨F2447_, hA_, g2448_, s2449_, c2445_, c2446_⟩
            subst hA_
            have g2450_ : fs [(344, 344, 5, 5), (344, 344, 9, 10), (344, 344, 33, 33), (344, 344, 36, 36), (344, 344, 64, 64), (358, 358, 0, 100000), (360, 366, 0, 100000)] F F2447_ := fs_tr g2439_ s2449_ rfl
            have rk2451_ : rk K F2447_ := rk_fs rk2440_ s2449_ (fs_rg rfl) rfl
            try simp only [e2444_] at c2445_
            refine ga_aload_n (v := .ref 344) hm_184 rfl rfl rfl ?_
            refine fl_bipush hm_184 rfl rfl ?_
            have b2452_ : 0 ≤ F2447_ 344 5 ∧ F2447_ 344 5 ≤ 600 := gi_g g2448_ rfl
            refine gVv (nY := 2) (F := 2) (L := 44) (As := [.int (Int32.ofInt 16)]) (b := 344) (rest := []) hm_184 rfl hm_55 rfl rfl (fl_ob sc_344) rfl rfl rfl rfl rfl (by omega) (by omega) (mc_55s hG F2447_ X g2448_ (K) (16) ([58, 105, 110, 105, 116]) hgK rk2451_ hkt (⟨by omega, by omega⟩) (⟨by omega, by omega⟩) (by decide) (kw_16 rk2451_)) (fun _ _ h => False.elim h) ?_
            have b2454_ : 0 ≤ F2447_ 344 9 ∧ F2447_ 344 9 ≤ 5 := gi_g g2448_ rfl
            rintro A1_ ⟨F2457_, hA_, g2458_, s2459_, c2455_, c2456_⟩
            subst hA_
            have g2460_ : fs [(344, 344, 5, 5), (344, 344, 9, 10), (344, 344, 33, 33), (344, 344, 36, 36), (344, 344, 64, 64), (358, 358, 0, 100000), (360, 366, 0, 100000)] F F2457_ := fs_tr g2450_ s2459_ rfl
            have rk2461_ : rk K F2457_ := rk_fs rk2451_ s2459_ (fs_rg rfl) rfl
            refine ga_aload_n (v := .ref 344) hm_184 rfl rfl rfl ?_
            have b2462_ : 0 ≤ F2457_ 344 5 ∧ F2457_ 344 5 ≤ 600 := gi_g g2458_ rfl
            refine gVv (nY := 2) (F := 5) (L := 117) (As := []) (b := 344) (rest := []) hm_184 rfl hm_178 rfl rfl (fl_ob sc_344) rfl rfl rfl rfl rfl (by omega) (by omega) (mc_178 hG F2457_ X g2458_ (K) (l2_) (tl2_) (pl) (ps) hgK rk2461_ hkt (⟨by omega, by omega⟩) ((trm_fs (trm_fs (trm_fs (trm_fs ht2_.1 s2425_ (by first | exact fs_rg rfl | exact fun r j hj => (fs_n (by omega) (fs_n (by omega) rfl)))) s2438_ (by first | exact fs_rg rfl | exact fun r j hj => (fs_n (by omega) (fs_n (by omega) rfl)))) s2449_ (by first | exact fs_rg rfl | exact fun r j hj => (fs_n (by omega) (fs_n (by omega) rfl)))) s2459_ (by first | exact fs_rg rfl | exact fun r j hj => (fs_n (by omega) (fs_n (by omega) rfl))))) (ht2_.2) ((rpn_fs (rpn_fs (rpn_fs (rpn_fs (rpn_fs (rpn_fs (rpn_fs (rpn_fs (rpn_fs (rpn_fs (rpn_fs (rpn_fs (rpn_fs (rpn_fs (rpn_fs (rpn_fs (rpn_fs (rpn_fs (rpn_fs (rpn_fs hpl s8_ (fun _ => (by first | exact fs_c rfl | exact (fs_n (by omega) (fs_n (by omega) rfl)))) (by first | exact fs_c rfl | exact (fs_n (by omega) (fs_n (by omega) rfl)))) s18_ (fun _ => (by first | exact fs_c rfl | exact (fs_n (by omega) (fs_n (by omega) rfl)))) (by first | exact fs_c rfl | exact (fs_n (by omega) (fs_n (by omega) rfl)))) s28_ (fun _ => (by first | exact fs_c rfl | exact (fs_n (by omega) (fs_n (by omega) rfl)))) (by first | exact fs_c rfl | exact (fs_n (by omega) (fs_n (by omega) rfl)))) s38_ (fun _ => (by first | exact fs_c rfl | exact (fs_n (by omega) (fs_n (by omega) rfl)))) (by first | exact fs_c rfl | exact (fs_n (by omega) (fs_n (by omega) rfl)))) s50_ (fun _ => (by first | exact fs_c rfl | exact (fs_n (by omega) rfl))) (by first | exact fs_c rfl | exact (fs_n (by omega) rfl))) s59_ (fun _ => (by first | exact fs_c rfl | exact (fs_n (by omega) rfl))) (by first | exact fs_c rfl | exact (fs_n (by omega) rfl))) s69_ (fun _ => (by first | exact fs_c rfl | exact (fs_n (by omega) (fs_n (by omega) rfl)))) (by first | exact fs_c rfl | exact (fs_n (by omega) (fs_n (by omega) rfl)))) s79_ (fun _ => (by first | exact fs_c rfl | exact (fs_n (by omega) (fs_n (by omega) rfl)))) (by first | exact fs_c rfl | exact (fs_n (by omega) (fs_n (by omega) rfl)))) s89_ (fun _ => (by first | exact fs_c rfl | exact (fs_n (by omega) (fs_n (by omega) rfl)))) (by first | exact fs_c rfl | exact (fs_n (by omega) (fs_n (by omega) rfl)))) s101_ (fun _ => (by first | exact fs_c rfl | exact (fs_n (by omega) rfl))) (by first | exact fs_c rfl | exact (fs_n (by omega) rfl))) s2039_ (fun _ => (by first | exact fs_c rfl | exact (fs_n (by omega) rfl))) (by first | exact fs_c rfl | exact (fs_n (by omega) rfl))) s2049_ (fun _ => (by first | exact fs_c rfl | exact (fs_n (by omega) (fs_n (by omega) rfl)))) (by first | exact fs_c rfl | exact (fs_n (by omega) (fs_n (by omega) rfl)))) s2059_ (fun _ => (by first | exact fs_c rfl | exact (fs_n (by omega) (fs_n (by omega) rfl)))) (by first | exact fs_c rfl | exact (fs_n (by omega) (fs_n (by omega) rfl)))) s2069_ (fun _ => (by first | exact fs_c rfl | exact (fs_n (by omega) (fs_n (by omega) rfl)))) (by first | exact fs_c rfl | exact (fs_n (by omega) (fs_n (by omega) rfl)))) hf_F1 (fun _ => (by first | exact fs_c rfl | exact (fs_n (by omega) (fs_n (by omega) (fs_n (by omega) (fs_n (by omega) rfl)))))) (by first | exact fs_c rfl | exact (fs_n (by omega) (fs_n (by omega) (fs_n (by omega) (fs_n (by omega) rfl)))))) s2361_ (fun _ => (by first | exact fs_c rfl | exact (fs_n (by omega) (fs_n (by omega) (fs_n (by omega) (fs_n (by omega) rfl)))))) (by first | exact fs_c rfl | exact (fs_n (by omega) (fs_n (by omega) (fs_n (by omega) (fs_n (by omega) rfl)))))) s2425_ (fun _ => (by first | exact fs_c rfl | exact (fs_n (by omega) (fs_n (by omega) rfl)))) (by first | exact fs_c rfl | exact (fs_n (by omega) (fs_n (by omega) rfl)))) s2438_ (fun _ => (by first | exact fs_c rfl | exact (fs_n (by omega) (fs_n (by omega) rfl)))) (by first | exact fs_c rfl | exact (fs_n (by omega) (fs_n (by omega) rfl)))) s2449_ (fun _ => (by first | exact fs_c rfl | exact (fs_n (by omega) (fs_n (by omega) rfl)))) (by first | exact fs_c rfl | exact (fs_n (by omega) (fs_n (by omega) rfl)))) s2459_ (fun _ => (by first | exact fs_c rfl | exact (fs_n (by omega) (fs_n (by omega) rfl)))) (by first | exact fs_c rfl | exact (fs_n (by omega) (fs_n (by omega) rfl))))) (⟨(rprd_fs (rprd_fs (rprd_fs (rprd_fs (rprd_fs (rprd_fs (rprd_fs (rprd_fs (rprd_fs (rprd_fs (rprd_fs (rprd_fs (rprd_fs (rprd_fs (rprd_fs (rprd_fs (rprd_fs (rprd_fs (rprd_fs (rprd_fs hps.1 s8_ (by first | exact fs_rg rfl | exact fun r j hj => (fs_n (by omega) (fs_n (by omega) rfl)))) s18_ (by first | exact fs_rg rfl | exact fun r j hj => (fs_n (by omega) (fs_n (by omega) rfl)))) s28_ (by first | exact fs_rg rfl | exact fun r j hj => (fs_n (by omega) (fs_n (by omega) rfl)))) s38_ (by first | exact fs_rg rfl | exact fun r j hj => (fs_n (by omega) (fs_n (by omega) rfl)))) s50_ (by first | exact fs_rg rfl | exact fun r j hj => (fs_n (by omega) rfl))) s59_ (by first | exact fs_rg rfl | exact fun r j hj => (fs_n (by omega) rfl))) s69_ (by first | exact fs_rg rfl | exact fun r j hj => (fs_n (by omega) (fs_n (by omega) rfl)))) s79_ (by first | exact fs_rg rfl | exact fun r j hj => (fs_n (by omega) (fs_n (by omega) rfl)))) s89_ (by first | exact fs_rg rfl | exact fun r j hj => (fs_n (by omega) (fs_n (by omega) rfl)))) s101_ (by first | exact fs_rg rfl | exact fun r j hj => (fs_n (by omega) rfl))) s2039_ (by first | exact fs_rg rfl | exact fun r j hj => (fs_n (by omega) rfl))) s2049_ (by first | exact fs_rg rfl | exact fun r j hj => (fs_n (by omega) (fs_n (by omega) rfl)))) s2059_ (by first | exact fs_rg rfl | exact fun r j hj => (fs_n (by omega) (fs_n (by omega) rfl)))) s2069_ (by first | exact fs_rg rfl | exact fun r j hj => (fs_n (by omega) (fs_n (by omega) rfl)))) hf_F1 (by first | exact fs_rg rfl | exact fun r j hj => (fs_n (by omega) (fs_n (by omega) (fs_n (by omega) (fs_n (by omega) rfl)))))) s2361_ (by first | exact fs_rg rfl | exact fun r j hj => (fs_n (by omega) (fs_n (by omega) (fs_n (by omega) (fs_n (by omega) rfl)))))) s2425_ (by first | exact fs_rg rfl | exact fun r j hj => (fs_n (by omega) (fs_n (by omega) rfl)))) s2438_ (by first | exact fs_rg rfl | exact fun r j hj => (fs_n (by omega) (fs_n (by omega) rfl)))) s2449_ (by first | exact fs_rg rfl | exact fun r j hj => (fs_n (by omega) (fs_n (by omega) rfl)))) s2459_ (by first | exact fs_rg rfl | exact fun r j hj => (fs_n (by omega) (fs_n (by omega) rfl)))), hps.2⟩)) (fun _ _ h => False.elim h) ?_
            have b2464_ : 0 ≤ F2457_ 344 9 ∧ F2457_ 344 9 ≤ 5 := gi_g g2458_ rfl
            rintro A1_ ⟨F2467_, hA_, g2468_, s2469_, c2465_, c2466_⟩
            subst hA_
            have g2470_ : fs [(344, 344, 5, 5), (344, 344, 9, 10), (344, 344, 33, 33), (344, 344, 36, 36), (344, 344, 64, 64), (358, 358, 0, 100000), (360, 366, 0, 100000)] F F2467_ := fs_tr g2460_ s2469_ rfl
            have rk2471_ : rk K F2467_ := rk_fs rk2461_ s2469_ (fs_rg rfl) rfl
            refine ga_aload_n (v := .ref 344) hm_184 rfl rfl rfl ?_
            refine fl_bipush hm_184 rfl rfl ?_
            have b2472_ : 0 ≤ F2467_ 344 5 ∧ F2467_ 344 5 ≤ 600 := gi_g g2468_ rfl
            refine gVv (nY := 2) (F := 2) (L := 41) (As := [.int (Int32.ofInt 41)]) (b := 344) (rest := []) hm_184 rfl hm_51 rfl rfl (fl_ob sc_344) rfl rfl rfl rfl rfl (by omega) (by omega) (mc_51s hG F2467_ X g2468_ (K) (41) (1) hgK rk2471_ hkt (⟨by omega, by omega⟩) (by omega) (by omega)) (fun _ _ h => False.elim h) ?_
            have b2474_ : 0 ≤ F2467_ 344 9 ∧ F2467_ 344 9 ≤ 5 := gi_g g2468_ rfl
            rintro A1_ ⟨F2477_, hA_, g2478_, s2479_, c2475_, c2476_⟩
            subst hA_
            have g2480_ : fs [(344, 344, 5, 5), (344, 344, 9, 10), (344, 344, 33, 33), (344, 344, 36, 36), (344, 344, 64, 64), (358, 358, 0, 100000), (360, 366, 0, 100000)] F F2477_ := fs_tr g2470_ s2479_ rfl
            have rk2481_ : rk K F2477_ := rk_fs rk2471_ s2479_ (fs_rg rfl) rfl
            refine ga_aload_n (v := .ref 344) hm_184 rfl rfl rfl ?_
            refine fl_bipush hm_184 rfl rfl ?_
            have b2482_ : 0 ≤ F2477_ 344 5 ∧ F2477_ 344 5 ≤ 600 := gi_g g2478_ rfl
            refine gVv (nY := 2) (F := 2) (L := 41) (As := [.int (Int32.ofInt 40)]) (b := 344) (rest := []) hm_184 rfl hm_51 rfl rfl (fl_ob sc_344) rfl rfl rfl rfl rfl (by omega) (by omega) (mc_51s hG F2477_ X g2478_ (K) (40) (0) hgK rk2481_ hkt (⟨by omega, by omega⟩) (by omega) (by omega)) (fun _ _ h => False.elim h) ?_
            have b2484_ : 0 ≤ F2477_ 344 9 ∧ F2477_ 344 9 ≤ 5 := gi_g g2478_ rfl
            rintro A1_ ⟨F2487_, hA_, g2488_, s2489_, c2485_, c2486_⟩
            subst hA_
            have g2490_ : fs [(344, 344, 5, 5), (344, 344, 9, 10), (344, 344, 33, 33), (344, 344, 36, 36), (344, 344, 64, 64), (358, 358, 0, 100000), (360, 366, 0, 100000)] F F2487_ := fs_tr g2480_ s2489_ rfl
            have rk2491_ : rk K F2487_ := rk_fs rk2481_ s2489_ (fs_rg rfl) rfl
            refine ga_aload_n (v := .ref 344) hm_184 rfl rfl rfl ?_
            refine fl_bipush hm_184 rfl rfl ?_
            have b2492_ : 0 ≤ F2487_ 344 5 ∧ F2487_ 344 5 ≤ 600 := gi_g g2488_ rfl
            refine gVv (nY := 2) (F := 2) (L := 44) (As := [.int (Int32.ofInt 17)]) (b := 344) (rest := []) hm_184 rfl hm_55 rfl rfl (fl_ob sc_344) rfl rfl rfl rfl rfl (by omega) (by omega) (mc_55s hG F2487_ X g2488_ (K) (17) ([58, 103, 111, 97, 108]) hgK rk2491_ hkt (⟨by omega, by omega⟩) (⟨by omega, by omega⟩) (by decide) (kw_17 rk2491_)) (fun _ _ h => False.elim h) ?_
            have b2494_ : 0 ≤ F2487_ 344 9 ∧ F2487_ 344 9 ≤ 5 := gi_g g2488_ rfl
            rintro A1_ ⟨F2497_, hA_, g2498_, s2499_, c2495_, c2496_⟩
            subst hA_
            have g2500_ : fs [(344, 344, 5, 5), (344, 344, 9, 10), (344, 344, 33, 33), (344, 344, 36, 36), (344, 344, 64, 64), (358, 358, 0, 100000), (360, 366, 0, 100000)] F F2497_ := fs_tr g2490_ s2499_ rfl
            have rk2501_ : rk K F2497_ := rk_fs rk2491_ s2499_ (fs_rg rfl) rfl
            refine ga_aload_n (v := .ref 344) hm_184 rfl rfl rfl ?_
            refine ga_getr (b := 358) hm_184 rfl sc_344 rfl ?_
            refine fl_iconst hm_184 rfl ?_
            refine fl_iconst hm_184 rfl ?_
            refine fl_iast (z := 5) (v := 0) hm_184 rfl sc_358 (by omega) (by omega) (by omega) ?_
            refine ga_aload_n (v := .ref 344) hm_184 rfl rfl rfl ?_
            refine fl_iconst hm_184 rfl ?_
            refine fl_bipush hm_184 rfl rfl ?_
            obtain ⟨F2502_, q2503_⟩ : ∃ Fq_, Fq_ = (fl_u F2497_ 358 (5 : Int).toNat 0) := ⟨_, rfl⟩
            rw [← q2503_]
            have g2504_ : gi F2502_ := by rw [q2503_]; exact gi_u (g2498_) rfl (by omega) (by omega)
            have g2505_ : fs [(344, 344, 5, 5), (344, 344, 9, 10), (344, 344, 33, 33), (344, 344, 36, 36), (344, 344, 64, 64), (358, 358, 0, 100000), (360, 366, 0, 100000)] F F2502_ := by rw [q2503_]; exact fs_u (g2500_) rfl
            have rk2506_ : rk K F2502_ := by rw [q2503_]; exact rk_u (rk2501_) (by first | decide | exact nc_ rfl | omega) (by first | decide | exact nc_ rfl | omega)
            have e2507_ : F2502_ 344 5 = F2497_ 344 5 := by rw [q2503_]; exact fl_u_ne (by first | exact nc_ rfl | decide | omega)
            have b2508_ : 0 ≤ F2497_ 344 5 ∧ F2497_ 344 5 ≤ 600 := gi_g g2498_ rfl
            refine gVv (nY := 4) (F := 6) (L := 142) (As := [.int (Int32.ofInt 5), .int (Int32.ofInt 40)]) (b := 344) (rest := []) hm_184 rfl hm_175 rfl rfl (fl_ob sc_344) rfl rfl rfl rfl rfl (by omega) (by omega) (mc_175s hG F2502_ X g2504_ (K) (5) (40) (2) (l2_) (tl2_) (pl) (ps) hgK rk2506_ hkt (⟨by omega, by omega⟩) ((by rw [q2503_]; exact (trm_u (trm_fs (trm_fs (trm_fs (trm_fs (trm_fs (trm_fs (trm_fs (trm_fs ht2_.1 s2425_ (by first | exact fs_rg rfl | exact fun r j hj => (fs_n (by omega) (fs_n (by omega) rfl)))) s2438_ (by first | exact fs_rg rfl | exact fun r j hj => (fs_n (by omega) (fs_n (by omega) rfl)))) s2449_ (by first | exact fs_rg rfl | exact fun r j hj => (fs_n (by omega) (fs_n (by omega) rfl)))) s2459_ (by first | exact fs_rg rfl | exact fun r j hj => (fs_n (by omega) (fs_n (by omega) rfl)))) s2469_ (by first | exact fs_rg rfl | exact fun r j hj => (fs_n (by omega) (fs_n (by omega) (fs_n (by omega) (fs_n (by omega) rfl)))))) s2479_ (by first | exact fs_rg rfl | exact fun r j hj => (fs_n (by omega) (fs_n (by omega) rfl)))) s2489_ (by first | exact fs_rg rfl | exact fun r j hj => (fs_n (by omega) (fs_n (by omega) rfl)))) s2499_ (by first | exact fs_rg rfl | exact fun r j hj => (fs_n (by omega) (fs_n (by omega) rfl)))) (by first | decide | exact nc_ rfl | omega)))) (ht2_.2) (⟨by omega, by omega⟩) ((by rw [q2503_]; exact (rpn_u (rpn_fs (rpn_fs (rpn_fs (rpn_fs (rpn_fs (rpn_fs (rpn_fs (rpn_fs (rpn_fs (rpn_fs (rpn_fs (rpn_fs (rpn_fs (rpn_fs (rpn_fs (rpn_fs (rpn_fs (rpn_fs (rpn_fs (rpn_fs (rpn_fs (rpn_fs (rpn_fs (rpn_fs hpl s8_ (fun _ => (by first | exact fs_c rfl | exact (fs_n (by omega) (fs_n (by omega) rfl)))) (by first | exact fs_c rfl | exact (fs_n (by omega) (fs_n (by omega) rfl)))) s18_ (fun _ => (by first | exact fs_c rfl | exact (fs_n (by omega) (fs_n (by omega) rfl)))) (by first | exact fs_c rfl | exact (fs_n (by omega) (fs_n (by omega) rfl)))) s28_ (fun _ => (by first | exact fs_c rfl | exact (fs_n (by omega) (fs_n (by omega) rfl)))) (by first | exact fs_c rfl | exact (fs_n (by omega) (fs_n (by omega) rfl)))) s38_ (fun _ => (by first | exact fs_c rfl | exact (fs_n (by omega) (fs_n (by omega) rfl)))) (by first | exact fs_c rfl | exact (fs_n (by omega) (fs_n (by omega) rfl)))) s50_ (fun _ => (by first | exact fs_c rfl | exact (fs_n (by omega) rfl))) (by first | exact fs_c rfl | exact (fs_n (by omega) rfl))) s59_ (fun _ => (by first | exact fs_c rfl | exact (fs_n (by omega) rfl))) (by first | exact fs_c rfl | exact (fs_n (by omega) rfl))) s69_ (fun _ => (by first | exact fs_c rfl | exact (fs_n (by omega) (fs_n (by omega) rfl)))) (by first | exact fs_c rfl | exact (fs_n (by omega) (fs_n (by omega) rfl)))) s79_ (fun _ => (by first | exact fs_c rfl | exact (fs_n (by omega) (fs_n (by omega) rfl)))) (by first | exact fs_c rfl | exact (fs_n (by omega) (fs_n (by omega) rfl)))) s89_ (fun _ => (by first | exact fs_c rfl | exact (fs_n (by omega) (fs_n (by omega) rfl)))) (by first | exact fs_c rfl | exact (fs_n (by omega) (fs_n (by omega) rfl)))) s101_ (fun _ => (by first | exact fs_c rfl | exact (fs_n (by omega) rfl))) (by first | exact fs_c rfl | exact (fs_n (by omega) rfl))) s2039_ (fun _ => (by first | exact fs_c rfl | exact (fs_n (by omega) rfl))) (by first | exact fs_c rfl | exact (fs_n (by omega) rfl))) s2049_ (fun _ => (by first | exact fs_c rfl | exact (fs_n (by omega) (fs_n (by omega) rfl)))) (by first | exact fs_c rfl | exact (fs_n (by omega) (fs_n (by omega) rfl)))) s2059_ (fun _ => (by first | exact fs_c rfl | exact (fs_n (by omega) (fs_n (by omega) rfl)))) (by first | exact fs_c rfl | exact (fs_n (by omega) (fs_n (by omega) rfl)))) s2069_ (fun _ => (by first | exact fs_c rfl | exact (fs_n (by omega) (fs_n (by omega) rfl)))) (by first | exact fs_c rfl | exact (fs_n (by omega) (fs_n (by omega) rfl)))) hf_F1 (fun _ => (by first | exact fs_c rfl | exact (fs_n (by omega) (fs_n (by omega) (fs_n (by omega) (fs_n (by omega) rfl)))))) (by first | exact fs_c rfl | exact (fs_n (by omega) (fs_n (by omega) (fs_n (by omega) (fs_n (by omega) rfl)))))) s2361_ (fun _ => (by first | exact fs_c rfl | exact (fs_n (by omega) (fs_n (by omega) (fs_n (by omega) (fs_n (by omega) rfl)))))) (by first | exact fs_c rfl | exact (fs_n (by omega) (fs_n (by omega) (fs_n (by omega) (fs_n (by omega) rfl)))))) s2425_ (fun _ => (by first | exact fs_c rfl | exact (fs_n (by omega) (fs_n (by omega) rfl)))) (by first | exact fs_c rfl | exact (fs_n (by omega) (fs_n (by omega) rfl)))) s2438_ (fun _ => (by first | exact fs_c rfl | exact (fs_n (by omega) (fs_n (by omega) rfl)))) (by first | exact fs_c rfl | exact (fs_n (by omega) (fs_n (by omega) rfl)))) s2449_ (fun _ => (by first | exact fs_c rfl | exact (fs_n (by omega) (fs_n (by omega) rfl)))) (by first | exact fs_c rfl | exact (fs_n (by omega) (fs_n (by omega) rfl)))) s2459_ (fun _ => (by first | exact fs_c rfl | exact (fs_n (by omega) (fs_n (by omega) rfl)))) (by first | exact fs_c rfl | exact (fs_n (by omega) (fs_n (by omega) rfl)))) s2469_ (fun _ => (by first | exact fs_c rfl | exact (fs_n (by omega) (fs_n (by omega) (fs_n (by omega) (fs_n (by omega) rfl)))))) (by first | exact fs_c rfl | exact (fs_n (by omega) (fs_n (by omega) (fs_n (by omega) (fs_n (by omega) rfl)))))) s2479_ (fun _ => (by first | exact fs_c rfl | exact (fs_n (by omega) (fs_n (by omega) rfl)))) (by first | exact fs_c rfl | exact (fs_n (by omega) (fs_n (by omega) rfl)))) s2489_ (fun _ => (by first | exact fs_c rfl | exact (fs_n (by omega) (fs_n (by omega) rfl)))) (by first | exact fs_c rfl | exact (fs_n (by omega) (fs_n (by omega) rfl)))) s2499_ (fun _ => (by first | exact fs_c rfl | exact (fs_n (by omega) (fs_n (by omega) rfl)))) (by first | exact fs_c rfl | exact (fs_n (by omega) (fs_n (by omega) rfl)))) (by first | decide | exact nc_ rfl | omega) (by first | decide | exact nc_ rfl | omega)))) (⟨(by rw [q2503_]; exact (rprd_u (rprd_fs (rprd_fs (rprd_fs (rprd_fs (rprd_fs (rprd_fs (rprd_fs (rprd_fs (rprd_fs (rprd_fs (rprd_fs (rprd_fs (rprd_fs (rprd_fs (rprd_fs (rprd_fs (rprd_fs (rprd_fs (rprd_fs (rprd_fs (rprd_fs (rprd_fs (rprd_fs (rprd_fs hps.1 s8_ (by first | exact fs_rg rfl | exact fun r j hj => (fs_n (by omega) (fs_n (by omega) rfl)))) s18_ (by first | exact fs_rg rfl | exact fun r j hj => (fs_n (by omega) (fs_n (by omega) rfl)))) s28_ (by first | exact fs_rg rfl | exact fun r j hj => (fs_n (by omega) (fs_n (by omega) rfl)))) s38_ (by first | exact fs_rg rfl | exact fun r j hj => (fs_n (by omega) (fs_n (by omega) rfl)))) s50_ (by first | exact fs_rg rfl | exact fun r j hj => (fs_n (by omega) rfl))) s59_ (by first | exact fs_rg rfl | exact fun r j hj => (fs_n (by omega) rfl))) s69_ (by first | exact fs_rg rfl | exact fun r j hj => (fs_n (by omega) (fs_n (by omega) rfl)))) s79_ (by first | exact fs_rg rfl | exact fun r j hj => (fs_n (by omega) (fs_n (by omega) rfl)))) s89_ (by first | exact fs_rg rfl | exact fun r j hj => (fs_n (by omega) (fs_n (by omega) rfl)))) s101_ (by first | exact fs_rg rfl | exact fun r j hj => (fs_n (by omega) rfl))) s2039_ (by first | exact fs_rg rfl | exact fun r j hj => (fs_n (by omega) rfl))) s2049_ (by first | exact fs_rg rfl | exact fun r j hj => (fs_n (by omega) (fs_n (by omega) rfl)))) s2059_ (by first | exact fs_rg rfl | exact fun r j hj => (fs_n (by omega) (fs_n (by omega) rfl)))) s2069_ (by first | exact fs_rg rfl | exact fun r j hj => (fs_n (by omega) (fs_n (by omega) rfl)))) hf_F1 (by first | exact fs_rg rfl | exact fun r j hj => (fs_n (by omega) (fs_n (by omega) (fs_n (by omega) (fs_n (by omega) rfl)))))) s2361_ (by first | exact fs_rg rfl | exact fun r j hj => (fs_n (by omega) (fs_n (by omega) (fs_n (by omega) (fs_n (by omega) rfl)))))) s2425_ (by first | exact fs_rg rfl | exact fun r j hj => (fs_n (by omega) (fs_n (by omega) rfl)))) s2438_ (by first | exact fs_rg rfl | exact fun r j hj => (fs_n (by omega) (fs_n (by omega) rfl)))) s2449_ (by first | exact fs_rg rfl | exact fun r j hj => (fs_n (by omega) (fs_n (by omega) rfl)))) s2459_ (by first | exact fs_rg rfl | exact fun r j hj => (fs_n (by omega) (fs_n (by omega) rfl)))) s2469_ (by first | exact fs_rg rfl | exact fun r j hj => (fs_n (by omega) (fs_n (by omega) (fs_n (by omega) (fs_n (by omega) rfl)))))) s2479_ (by first | exact fs_rg rfl | exact fun r j hj => (fs_n (by omega) (fs_n (by omega) rfl)))) s2489_ (by first | exact fs_rg rfl | exact fun r j hj => (fs_n (by omega) (fs_n (by omega) rfl)))) s2499_ (by first | exact fs_rg rfl | exact fun r j hj => (fs_n (by omega) (fs_n (by omega) rfl)))) (by first | decide | exact nc_ rfl | omega))), hps.2⟩) (⟨by omega, by omega⟩) (Or.inr (by omega)) (by rw [q2503_]; exact fl_u_eq)) (fun _ _ h => False.elim h) ?_
            have e2510_ : F2502_ 344 9 = F2497_ 344 9 := by rw [q2503_]; exact fl_u_ne (by first | exact nc_ rfl | decide | omega)
            have b2511_ : 0 ≤ F2497_ 344 9 ∧ F2497_ 344 9 ≤ 5 := gi_g g2498_ rfl
            rintro A1_ ⟨F2514_, hA_, g2515_, s2516_, c2512_, c2513_⟩
            subst hA_
            have g2517_ : fs [(344, 344, 5, 5), (344, 344, 9, 10), (344, 344, 33, 33), (344, 344, 36, 36), (344, 344, 64, 64), (358, 358, 0, 100000), (360, 366, 0, 100000)] F F2514_ := fs_tr g2505_ s2516_ rfl
            have rk2518_ : rk K F2514_ := rk_fs rk2506_ s2516_ (fs_rg rfl) rfl
            try simp only [e2510_] at c2512_
            refine ga_aload_n (v := .ref 344) hm_184 rfl rfl rfl ?_
            refine fl_bipush hm_184 rfl rfl ?_
            have b2519_ : 0 ≤ F2514_ 344 5 ∧ F2514_ 344 5 ≤ 600 := gi_g g2515_ rfl
            refine gVv (nY := 2) (F := 2) (L := 41) (As := [.int (Int32.ofInt 41)]) (b := 344) (rest := []) hm_184 rfl hm_51 rfl rfl (fl_ob sc_344) rfl rfl rfl rfl rfl (by omega) (by omega) (mc_51s hG F2514_ X g2515_ (K) (41) (1) hgK rk2518_ hkt (⟨by omega, by omega⟩) (by omega) (by omega)) (fun _ _ h => False.elim h) ?_
            have b2521_ : 0 ≤ F2514_ 344 9 ∧ F2514_ 344 9 ≤ 5 := gi_g g2515_ rfl
            rintro A1_ ⟨F2524_, hA_, g2525_, s2526_, c2522_, c2523_⟩
            subst hA_
            have g2527_ : fs [(344, 344, 5, 5), (344, 344, 9, 10), (344, 344, 33, 33), (344, 344, 36, 36), (344, 344, 64, 64), (358, 358, 0, 100000), (360, 366, 0, 100000)] F F2524_ := fs_tr g2517_ s2526_ rfl
            have rk2528_ : rk K F2524_ := rk_fs rk2518_ s2526_ (fs_rg rfl) rfl
            refine ga_aload_n (v := .ref 344) hm_184 rfl rfl rfl ?_
            refine fl_bipush hm_184 rfl rfl ?_
            have b2529_ : 0 ≤ F2524_ 344 5 ∧ F2524_ 344 5 ≤ 600 := gi_g g2525_ rfl
            refine gVv (nY := 2) (F := 2) (L := 41) (As := [.int (Int32.ofInt 41)]) (b := 344) (rest := []) hm_184 rfl hm_51 rfl rfl (fl_ob sc_344) rfl rfl rfl rfl rfl (by omega) (by omega) (mc_51s hG F2524_ X g2525_ (K) (41) (1) hgK rk2528_ hkt (⟨by omega, by omega⟩) (by omega) (by omega)) (fun _ _ h => False.elim h) ?_
            have b2531_ : 0 ≤ F2524_ 344 9 ∧ F2524_ 344 9 ≤ 5 := gi_g g2525_ rfl
            rintro A1_ ⟨F2534_, hA_, g2535_, s2536_, c2532_, c2533_⟩
            subst hA_
            have g2537_ : fs [(344, 344, 5, 5), (344, 344, 9, 10), (344, 344, 33, 33), (344, 344, 36, 36), (344, 344, 64, 64), (358, 358, 0, 100000), (360, 366, 0, 100000)] F F2534_ := fs_tr g2527_ s2536_ rfl
            have rk2538_ : rk K F2534_ := rk_fs rk2528_ s2536_ (fs_rg rfl) rfl
            refine ga_aload_n (v := .ref 344) hm_184 rfl rfl rfl ?_
            refine gIi (nY := 1) (F := 0) (L := 0) (As := []) (b := 344) (rest := []) hm_184 rfl hm_59 rfl rfl (fl_ob sc_344) rfl rfl rfl rfl rfl (by omega) (by omega) ?_
            intro f2539_ l2540_ h2541_ h2542_
            show fl_R xi_ms 59 f2539_ l2540_ 0 [(0, .ref 344)] [] _ _
            refine ga_aload_n (v := .ref 344) hm_59 rfl rfl rfl ?_
            have b2543_ : 0 ≤ F2534_ 344 9 ∧ F2534_ 344 9 ≤ 5 := gi_g g2535_ rfl
            refine ga_geti (z := F2534_ 344 9) hm_59 rfl sc_344 rfl (rfl) ?_
            refine fl_if_le (a := F2534_ 344 9) hm_59 rfl ⟨by omega, by omega⟩ (fun h2544_ => ?_) (fun h2545_ => ?_)
            ·
              refine fl_iconst hm_59 rfl ?_
              refine gr_i hm_59 rfl rfl (ga_nb (by omega)) ?_
              clear h2541_ h2542_ f2539_ l2540_
              refine fl_if_ne hm_184 rfl ⟨by omega, by omega⟩ (fun h => absurd h (by omega)) (fun _ => ?_)
              refine ga_aload_n (v := .ref 344) hm_184 rfl rfl rfl ?_
              have b2546_ : 0 ≤ F2534_ 344 5 ∧ F2534_ 344 5 ≤ 600 := gi_g g2535_ rfl
              refine ga_geti (z := F2534_ 344 5) hm_184 rfl sc_344 rfl (rfl) ?_
              refine ga_aload_n (v := .ref 344) hm_184 rfl rfl rfl ?_
              have e2547_ : F2534_ 344 4 = K 1 6 - 1 := rk2538_.2.1
              refine ga_geti (z := K 1 6 - 1) hm_184 rfl sc_344 rfl (e2547_) ?_
              refine fl_icmp_ge (a := F2534_ 344 5) (b := K 1 6 - 1) hm_184 rfl ⟨by omega, by omega⟩ ⟨by omega, by omega⟩ (fun h2548_ => ?_) (fun h2549_ => ?_)
              ·
                refine gr_v hm_184 rfl rfl ?_
                exact ⟨F2534_, rfl, g2535_, g2537_, (⟨by omega, by omega⟩)⟩
              refine ga_aload_n (v := .ref 344) hm_184 rfl rfl rfl ?_
              refine fl_iconst hm_184 rfl ?_
              refine gVv (nY := 2) (F := 0) (L := 0) (As := [.int (Int32.ofInt 1)]) (b := 344) (rest := []) hm_184 rfl hm_54 rfl rfl (fl_ob sc_344) rfl rfl rfl rfl rfl (by omega) (by omega) (mc_54 hG F2534_ X g2535_ (K) (1) hgK rk2538_ hkt (⟨by omega, by omega⟩) (⟨by omega, by omega⟩)) (fun _ _ h => False.elim h) ?_
              have b2551_ : 0 ≤ F2534_ 344 10 ∧ F2534_ 344 10 ≤ 600 := gi_g g2535_ rfl
              rintro A1_ ⟨F2555_, hA_, g2556_, s2557_, c2552_, c2553_, c2554_⟩
              subst hA_
              have g2558_ : fs [(344, 344, 5, 5), (344, 344, 9, 10), (344, 344, 33, 33), (344, 344, 36, 36), (344, 344, 64, 64), (358, 358, 0, 100000), (360, 366, 0, 100000)] F F2555_ := fs_tr g2537_ s2557_ rfl
              have rk2559_ : rk K F2555_ := rk_fs rk2538_ s2557_ (fs_rg rfl) rfl
              have c2553_s := c2553_.1 (by omega)
              clear c2553_
              refine gr_v hm_184 rfl rfl ?_
              have e2560_ : F2555_ 344 5 = F2534_ 344 5 := (s2557_ 344 5 rfl).trans (rfl)
              exact ⟨F2555_, rfl, g2556_, g2558_, (⟨by omega, by omega⟩)⟩
            refine fl_iconst hm_59 rfl ?_
            refine fl_goto hm_59 rfl ?_
            refine gr_i hm_59 rfl rfl (ga_nb (by omega)) ?_
            clear h2541_ h2542_ f2539_ l2540_
            refine fl_if_ne hm_184 rfl ⟨by omega, by omega⟩ (fun _ => ?_) (fun h => absurd (by omega) h)
            refine gr_v hm_184 rfl rfl ?_
            have b2561_ : 0 ≤ F2534_ 344 5 ∧ F2534_ 344 5 ≤ 600 := gi_g g2535_ rfl
            exact ⟨F2534_, rfl, g2535_, g2537_, (⟨by omega, by omega⟩)⟩
          refine fl_iconst hm_59 rfl ?_
          refine fl_goto hm_59 rfl ?_
          refine gr_i hm_59 rfl rfl (ga_nb (by omega)) ?_
          clear h2430_ h2431_ f2428_ l2429_
          refine fl_if_ne hm_184 rfl ⟨by omega, by omega⟩ (fun _ => ?_) (fun h => absurd (by omega) h)
          refine ga_aload_n (v := .ref 344) hm_184 rfl rfl rfl ?_
          refine fl_bipush hm_184 rfl rfl ?_
          have b2562_ : 0 ≤ F2423_ 344 5 ∧ F2423_ 344 5 ≤ 600 := gi_g g2424_ rfl
          refine gVv (nY := 2) (F := 2) (L := 41) (As := [.int (Int32.ofInt 40)]) (b := 344) (rest := []) hm_184 rfl hm_51 rfl rfl (fl_ob sc_344) rfl rfl rfl rfl rfl (by omega) (by omega) (mc_51s hG F2423_ X g2424_ (K) (40) (0) hgK rk2427_ hkt (⟨by omega, by omega⟩) (by omega) (by omega)) (fun _ _ h => False.elim h) ?_
          rintro A1_ ⟨F2566_, hA_, g2567_, s2568_, c2564_, c2565_⟩
          subst hA_
          have g2569_ : fs [(344, 344, 5, 5), (344, 344, 9, 10), (344, 344, 33, 33), (344, 344, 36, 36), (344, 344, 64, 64), (358, 358, 0, 100000), (360, 366, 0, 100000)] F F2566_ := fs_tr g2426_ s2568_ rfl
          have rk2570_ : rk K F2566_ := rk_fs rk2427_ s2568_ (fs_rg rfl) rfl
          refine ga_aload_n (v := .ref 344) hm_184 rfl rfl rfl ?_
          refine fl_bipush hm_184 rfl rfl ?_
          have b2571_ : 0 ≤ F2566_ 344 5 ∧ F2566_ 344 5 ≤ 600 := gi_g g2567_ rfl
          refine gVv (nY := 2) (F := 2) (L := 44) (As := [.int (Int32.ofInt 16)]) (b := 344) (rest := []) hm_184 rfl hm_55 rfl rfl (fl_ob sc_344) rfl rfl rfl rfl rfl (by omega) (by omega) (mc_55s hG F2566_ X g2567_ (K) (16) ([58, 105, 110, 105, 116]) hgK rk2570_ hkt (⟨by omega, by omega⟩) (⟨by omega, by omega⟩) (by decide) (kw_16 rk2570_)) (fun _ _ h => False.elim h) ?_
          have b2573_ : 0 ≤ F2566_ 344 9 ∧ F2566_ 344 9 ≤ 5 := gi_g g2567_ rfl
          rintro A1_ ⟨F2576_, hA_, g2577_, s2578_, c2574_, c2575_⟩
          subst hA_
          have g2579_ : fs [(344, 344, 5, 5), (344, 344, 9, 10), (344, 344, 33, 33), (344, 344, 36, 36), (344, 344, 64, 64), (358, 358, 0, 100000), (360, 366, 0, 100000)] F F2576_ := fs_tr g2569_ s2578_ rfl
          have rk2580_ : rk K F2576_ := rk_fs rk2570_ s2578_ (fs_rg rfl) rfl
          refine ga_aload_n (v := .ref 344) hm_184 rfl rfl rfl ?_
          have b2581_ : 0 ≤ F2576_ 344 5 ∧ F2576_ 344 5 ≤ 600 := gi_g g2577_ rfl
          refine gVv (nY := 2) (F := 5) (L := 117) (As := []) (b := 344) (rest := []) hm_184 rfl hm_178 rfl rfl (fl_ob sc_344) rfl rfl rfl rfl rfl (by omega) (by omega) (mc_178 hG F2576_ X g2577_ (K) (l2_) (tl2_) (pl) (ps) hgK rk2580_ hkt (⟨by omega, by omega⟩) ((trm_fs (trm_fs (trm_fs ht2_.1 s2425_ (by first | exact fs_rg rfl | exact fun r j hj => (fs_n (by omega) (fs_n (by omega) rfl)))) s2568_ (by first | exact fs_rg rfl | exact fun r j hj => (fs_n (by omega) (fs_n (by omega) rfl)))) s2578_ (by first | exact fs_rg rfl | exact fun r j hj => (fs_n (by omega) (fs_n (by omega) rfl))))) (ht2_.2) ((rpn_fs (rpn_fs (rpn_fs (rpn_fs (rpn_fs (rpn_fs (rpn_fs (rpn_fs (rpn_fs (rpn_fs (rpn_fs (rpn_fs (rpn_fs (rpn_fs (rpn_fs (rpn_fs (rpn_fs (rpn_fs (rpn_fs hpl s8_ (fun _ => (by first | exact fs_c rfl | exact (fs_n (by omega) (fs_n (by omega) rfl)))) (by first | exact fs_c rfl | exact (fs_n (by omega) (fs_n (by omega) rfl)))) s18_ (fun _ => (by first | exact fs_c rfl | exact (fs_n (by omega) (fs_n (by omega) rfl)))) (by first | exact fs_c rfl | exact (fs_n (by omega) (fs_n (by omega) rfl)))) s28_ (fun _ => (by first | exact fs_c rfl | exact (fs_n (by omega) (fs_n (by omega) rfl)))) (by first | exact fs_c rfl | exact (fs_n (by omega) (fs_n (by omega) rfl)))) s38_ (fun _ => (by first | exact fs_c rfl | exact (fs_n (by omega) (fs_n (by omega) rfl)))) (by first | exact fs_c rfl | exact (fs_n (by omega) (fs_n (by omega) rfl)))) s50_ (fun _ => (by first | exact fs_c rfl | exact (fs_n (by omega) rfl))) (by first | exact fs_c rfl | exact (fs_n (by omega) rfl))) s59_ (fun _ => (by first | exact fs_c rfl | exact (fs_n (by omega) rfl))) (by first | exact fs_c rfl | exact (fs_n (by omega) rfl))) s69_ (fun _ => (by first | exact fs_c rfl | exact (fs_n (by omega) (fs_n (by omega) rfl)))) (by first | exact fs_c rfl | exact (fs_n (by omega) (fs_n (by omega) rfl)))) s79_ (fun _ => (by first | exact fs_c rfl | exact (fs_n (by omega) (fs_n (by omega) rfl)))) (by first | exact fs_c rfl | exact (fs_n (by omega) (fs_n (by omega) rfl)))) s89_ (fun _ => (by first | exact fs_c rfl | exact (fs_n (by omega) (fs_n (by omega) rfl)))) (by first | exact fs_c rfl | exact (fs_n (by omega) (fs_n (by omega) rfl)))) s101_ (fun _ => (by first | exact fs_c rfl | exact (fs_n (by omega) rfl))) (by first | exact fs_c rfl | exact (fs_n (by omega) rfl))) s2039_ (fun _ => (by first | exact fs_c rfl | exact (fs_n (by omega) rfl))) (by first | exact fs_c rfl | exact (fs_n (by omega) rfl))) s2049_ (fun _ => (by first | exact fs_c rfl | exact (fs_n (by omega) (fs_n (by omega) rfl)))) (by first | exact fs_c rfl | exact (fs_n (by omega) (fs_n (by omega) rfl)))) s2059_ (fun _ => (by first | exact fs_c rfl | exact (fs_n (by omega) (fs_n (by omega) rfl)))) (by first | exact fs_c rfl | exact (fs_n (by omega) (fs_n (by omega) rfl)))) s2069_ (fun _ => (by first | exact fs_c rfl | exact (fs_n (by omega) (fs_n (by omega) rfl)))) (by first | exact fs_c rfl | exact (fs_n (by omega) (fs_n (by omega) rfl)))) hf_F1 (fun _ => (by first | exact fs_c rfl | exact (fs_n (by omega) (fs_n (by omega) (fs_n (by omega) (fs_n (by omega) rfl)))))) (by first | exact fs_c rfl | exact (fs_n (by omega) (fs_n (by omega) (fs_n (by omega) (fs_n (by omega) rfl)))))) s2361_ (fun _ => (by first | exact fs_c rfl | exact (fs_n (by omega) (fs_n (by omega) (fs_n (by omega) (fs_n (by omega) rfl)))))) (by first | exact fs_c rfl | exact (fs_n (by omega) (fs_n (by omega) (fs_n (by omega) (fs_n (by omega) rfl)))))) s2425_ (fun _ => (by first | exact fs_c rfl | exact (fs_n (by omega) (fs_n (by omega) rfl)))) (by first | exact fs_c rfl | exact (fs_n (by omega) (fs_n (by omega) rfl)))) s2568_ (fun _ => (by first | exact fs_c rfl | exact (fs_n (by omega) (fs_n (by omega) rfl)))) (by first | exact fs_c rfl | exact (fs_n (by omega) (fs_n (by omega) rfl)))) s2578_ (fun _ => (by first | exact fs_c rfl | exact (fs_n (by omega) (fs_n (by omega) rfl)))) (by first | exact fs_c rfl | exact (fs_n (by omega) (fs_n (by omega) rfl))))) (⟨(rprd_fs (rprd_fs (rprd_fs (rprd_fs (rprd_fs (rprd_fs (rprd_fs (rprd_fs (rprd_fs (rprd_fs (rprd_fs (rprd_fs (rprd_fs (rprd_fs (rprd_fs (rprd_fs (rprd_fs (rprd_fs (rprd_fs hps.1 s8_ (by first | exact fs_rg rfl | exact fun r j hj => (fs_n (by omega) (fs_n (by omega) rfl)))) s18_ (by first | exact fs_rg rfl | exact fun r j hj => (fs_n (by omega) (fs_n (by omega) rfl)))) s28_ (by first | exact fs_rg rfl | exact fun r j hj => (fs_n (by omega) (fs_n (by omega) rfl)))) s38_ (by first | exact fs_rg rfl | exact fun r j hj => (fs_n (by omega) (fs_n (by omega) rfl)))) s50_ (by first | exact fs_rg rfl | exact fun r j hj => (fs_n (by omega) rfl))) s59_ (by first | exact fs_rg rfl | exact fun r j hj => (fs_n (by omega) rfl))) s69_ (by first | exact fs_rg rfl | exact fun r j hj => (fs_n (by omega) (fs_n (by omega) rfl)))) s79_ (by first | exact fs_rg rfl | exact fun r j hj => (fs_n (by omega) (fs_n (by omega) rfl)))) s89_ (by first | exact fs_rg rfl | exact fun r j hj => (fs_n (by omega) (fs_n (by omega) rfl)))) s101_ (by first | exact fs_rg rfl | exact fun r j hj => (fs_n (by omega) rfl))) s2039_ (by first | exact fs_rg rfl | exact fun r j hj => (fs_n (by omega) rfl))) s2049_ (by first | exact fs_rg rfl | exact fun r j hj => (fs_n (by omega) (fs_n (by omega) rfl)))) s2059_ (by first | exact fs_rg rfl | exact fun r j hj => (fs_n (by omega) (fs_n (by omega) rfl)))) s2069_ (by first | exact fs_rg rfl | exact fun r j hj => (fs_n (by omega) (fs_n (by omega) rfl)))) hf_F1 (by first | exact fs_rg rfl | exact fun r j hj => (fs_n (by omega) (fs_n (by omega) (fs_n (by omega) (fs_n (by omega) rfl)))))) s2361_ (by first | exact fs_rg rfl | exact fun r j hj => (fs_n (by omega) (fs_n (by omega) (fs_n (by omega) (fs_n (by omega) rfl)))))) s2425_ (by first | exact fs_rg rfl | exact fun r j hj => (fs_n (by omega) (fs_n (by omega) rfl)))) s2568_ (by first | exact fs_rg rfl | exact fun r j hj => (fs_n (by omega) (fs_n (by omega) rfl)))) s2578_ (by first | exact fs_rg rfl | exact fun r j hj => (fs_n (by omega) (fs_n (by omega) rfl)))), hps.2⟩)) (fun _ _ h => False.elim h) ?_
          have b2583_ : 0 ≤ F2576_ 344 9 ∧ F2576_ 344 9 ≤ 5 := gi_g g2577_ rfl
          rintro A1_ ⟨F2586_, hA_, g2587_, s2588_, c2584_, c2585_⟩
          subst hA_
          have g2589_ : fs [(344, 344, 5, 5), (344, 344, 9, 10), (344, 344, 33, 33), (344, 344, 36, 36), (344, 344, 64, 64), (358, 358, 0, 100000), (360, 366, 0, 100000)] F F2586_ := fs_tr g2579_ s2588_ rfl
          have rk2590_ : rk K F2586_ := rk_fs rk2580_ s2588_ (fs_rg rfl) rfl
          refine ga_aload_n (v := .ref 344) hm_184 rfl rfl rfl ?_
          refine fl_bipush hm_184 rfl rfl ?_
          have b2591_ : 0 ≤ F2586_ 344 5 ∧ F2586_ 344 5 ≤ 600 := gi_g g2587_ rfl
          refine gVv (nY := 2) (F := 2) (L := 41) (As := [.int (Int32.ofInt 41)]) (b := 344) (rest := []) hm_184 rfl hm_51 rfl rfl (fl_ob sc_344) rfl rfl rfl rfl rfl (by omega) (by omega) (mc_51s hG F2586_ X g2587_ (K) (41) (1) hgK rk2590_ hkt (⟨by omega, by omega⟩) (by omega) (by omega)) (fun _ _ h => False.elim h) ?_
          have b2593_ : 0 ≤ F2586_ 344 9 ∧ F2586_ 344 9 ≤ 5 := gi_g g2587_ rfl
          rintro A1_ ⟨F2596_, hA_, g2597_, s2598_, c2594_, c2595_⟩
          subst hA_
          have g2599_ : fs [(344, 344, 5, 5), (344, 344, 9, 10), (344, 344, 33, 33), (344, 344, 36, 36), (344, 344, 64, 64), (358, 358, 0, 100000), (360, 366, 0, 100000)] F F2596_ := fs_tr g2589_ s2598_ rfl
          have rk2600_ : rk K F2596_ := rk_fs rk2590_ s2598_ (fs_rg rfl) rfl
          refine ga_aload_n (v := .ref 344) hm_184 rfl rfl rfl ?_
          refine fl_bipush hm_184 rfl rfl ?_
          have b2601_ : 0 ≤ F2596_ 344 5 ∧ F2596_ 344 5 ≤ 600 := gi_g g2597_ rfl
          refine gVv (nY := 2) (F := 2) (L := 41) (As := [.int (Int32.ofInt 40)]) (b := 344) (rest := []) hm_184 rfl hm_51 rfl rfl (fl_ob sc_344) rfl rfl rfl rfl rfl (by omega) (by omega) (mc_51s hG F2596_ X g2597_ (K) (40) (0) hgK rk2600_ hkt (⟨by omega, by omega⟩) (by omega) (by omega)) (fun _ _ h => False.elim h) ?_
          have b2603_ : 0 ≤ F2596_ 344 9 ∧ F2596_ 344 9 ≤ 5 := gi_g g2597_ rfl
          rintro A1_ ⟨F2606_, hA_, g2607_, s2608_, c2604_, c2605_⟩
          subst hA_
          have g2609_ : fs [(344, 344, 5, 5), (344, 344, 9, 10), (344, 344, 33, 33), (344, 344, 36, 36), (344, 344, 64, 64), (358, 358, 0, 100000), (360, 366, 0, 100000)] F F2606_ := fs_tr g2599_ s2608_ rfl
          have rk2610_ : rk K F2606_ := rk_fs rk2600_ s2608_ (fs_rg rfl) rfl
          refine ga_aload_n (v := .ref 344) hm_184 rfl rfl rfl ?_
          refine fl_bipush hm_184 rfl rfl ?_
          have b2611_ : 0 ≤ F2606_ 344 5 ∧ F2606_ 344 5 ≤ 600 := gi_g g2607_ rfl
          refine gVv (nY := 2) (F := 2) (L := 44) (As := [.int (Int32.ofInt 17)]) (b := 344) (rest := []) hm_184 rfl hm_55 rfl rfl (fl_ob sc_344) rfl rfl rfl rfl rfl (by omega) (by omega) (mc_55s hG F2606_ X g2607_ (K) (17) ([58, 103, 111, 97, 108]) hgK rk2610_ hkt (⟨by omega, by omega⟩) (⟨by omega, by omega⟩) (by decide) (kw_17 rk2610_)) (fun _ _ h => False.elim h) ?_
          have b2613_ : 0 ≤ F2606_ 344 9 ∧ F2606_ 344 9 ≤ 5 := gi_g g2607_ rfl
          rintro A1_ ⟨F2616_, hA_, g2617_, s2618_, c2614_, c2615_⟩
          subst hA_
          have g2619_ : fs [(344, 344, 5, 5), (344, 344, 9, 10), (344, 344, 33, 33), (344, 344, 36, 36), (344, 344, 64, 64), (358, 358, 0, 100000), (360, 366, 0, 100000)] F F2616_ := fs_tr g2609_ s2618_ rfl
          have rk2620_ : rk K F2616_ := rk_fs rk2610_ s2618_ (fs_rg rfl) rfl
          refine ga_aload_n (v := .ref 344) hm_184 rfl rfl rfl ?_
          refine ga_getr (b := 358) hm_184 rfl sc_344 rfl ?_
          refine fl_iconst hm_184 rfl ?_
          refine fl_iconst hm_184 rfl ?_
          refine fl_iast (z := 5) (v := 0) hm_184 rfl sc_358 (by omega) (by omega) (by omega) ?_
          refine ga_aload_n (v := .ref 344) hm_184 rfl rfl rfl ?_
          refine fl_iconst hm_184 rfl ?_
          refine fl_bipush hm_184 rfl rfl ?_
          obtain ⟨F2621_, q2622_⟩ : ∃ Fq_, Fq_ = (fl_u F2616_ 358 (5 : Int).toNat 0) := ⟨_, rfl⟩
          rw [← q2622_]
          have g2623_ : gi F2621_ := by rw [q2622_]; exact gi_u (g2617_) rfl (by omega) (by omega)
          have g2624_ : fs [(344, 344, 5, 5), (344, 344, 9, 10), (344, 344, 33, 33), (344, 344, 36, 36), (344, 344, 64, 64), (358, 358, 0, 100000), (360, 366, 0, 100000)] F F2621_ := by rw [q2622_]; exact fs_u (g2619_) rfl
          have rk2625_ : rk K F2621_ := by rw [q2622_]; exact rk_u (rk2620_) (by first | decide | exact nc_ rfl | omega) (by first | decide | exact nc_ rfl | omega)
          have e2626_ : F2621_ 344 5 = F2616_ 344 5 := by rw [q2622_]; exact fl_u_ne (by first | exact nc_ rfl | decide | omega)
          have b2627_ : 0 ≤ F2616_ 344 5 ∧ F2616_ 344 5 ≤ 600 := gi_g g2617_ rfl
          refine gVv (nY := 4) (F := 6) (L := 142) (As := [.int (Int32.ofInt 5), .int (Int32.ofInt 40)]) (b := 344) (rest := []) hm_184 rfl hm_175 rfl rfl (fl_ob sc_344) rfl rfl rfl rfl rfl (by omega) (by omega) (mc_175s hG F2621_ X g2623_ (K) (5) (40) (2) (l2_) (tl2_) (pl) (ps) hgK rk2625_ hkt (⟨by omega, by omega⟩) ((by rw [q2622_]; exact (trm_u (trm_fs (trm_fs (trm_fs (trm_fs (trm_fs (trm_fs (trm_fs ht2_.1 s2425_ (by first | exact fs_rg rfl | exact fun r j hj => (fs_n (by omega) (fs_n (by omega) rfl)))) s2568_ (by first | exact fs_rg rfl | exact fun r j hj => (fs_n (by omega) (fs_n (by omega) rfl)))) s2578_ (by first | exact fs_rg rfl | exact fun r j hj => (fs_n (by omega) (fs_n (by omega) rfl)))) s2588_ (by first | exact fs_rg rfl | exact fun r j hj => (fs_n (by omega) (fs_n (by omega) (fs_n (by omega) (fs_n (by omega) rfl)))))) s2598_ (by first | exact fs_rg rfl | exact fun r j hj => (fs_n (by omega) (fs_n (by omega) rfl)))) s2608_ (by first | exact fs_rg rfl | exact fun r j hj => (fs_n (by omega) (fs_n (by omega) rfl)))) s2618_ (by first | exact fs_rg rfl | exact fun r j hj => (fs_n (by omega) (fs_n (by omega) rfl)))) (by first | decide | exact nc_ rfl | omega)))) (ht2_.2) (⟨by omega, by omega⟩) ((by rw [q2622_]; exact (rpn_u (rpn_fs (rpn_fs (rpn_fs (rpn_fs (rpn_fs (rpn_fs (rpn_fs (rpn_fs (rpn_fs (rpn_fs (rpn_fs (rpn_fs (rpn_fs (rpn_fs (rpn_fs (rpn_fs (rpn_fs (rpn_fs (rpn_fs (rpn_fs (rpn_fs (rpn_fs (rpn_fs hpl s8_ (fun _ => (by first | exact fs_c rfl | exact (fs_n (by omega) (fs_n (by omega) rfl)))) (by first | exact fs_c rfl | exact (fs_n (by omega) (fs_n (by omega) rfl)))) s18_ (fun _ => (by first | exact fs_c rfl | exact (fs_n (by omega) (fs_n (by omega) rfl)))) (by first | exact fs_c rfl | exact (fs_n (by omega) (fs_n (by omega) rfl)))) s28_ (fun _ => (by first | exact fs_c rfl | exact (fs_n (by omega) (fs_n (by omega) rfl)))) (by first | exact fs_c rfl | exact (fs_n (by omega) (fs_n (by omega) rfl)))) s38_ (fun _ => (by first | exact fs_c rfl | exact (fs_n (by omega) (fs_n (by omega) rfl)))) (by first | exact fs_c rfl | exact (fs_n (by omega) (fs_n (by omega) rfl)))) s50_ (fun _ => (by first | exact fs_c rfl | exact (fs_n (by omega) rfl))) (by first | exact fs_c rfl | exact (fs_n (by omega) rfl))) s59_ (fun _ => (by first | exact fs_c rfl | exact (fs_n (by omega) rfl))) (by first | exact fs_c rfl | exact (fs_n (by omega) rfl))) s69_ (fun _ => (by first | exact fs_c rfl | exact (fs_n (by omega) (fs_n (by omega) rfl)))) (by first | exact fs_c rfl | exact (fs_n (by omega) (fs_n (by omega) rfl)))) s79_ (fun _ => (by first | exact fs_c rfl | exact (fs_n (by omega) (fs_n (by omega) rfl)))) (by first | exact fs_c rfl | exact (fs_n (by omega) (fs_n (by omega) rfl)))) s89_ (fun _ => (by first | exact fs_c rfl | exact (fs_n (by omega) (fs_n (by omega) rfl)))) (by first | exact fs_c rfl | exact (fs_n (by omega) (fs_n (by omega) rfl)))) s101_ (fun _ => (by first | exact fs_c rfl | exact (fs_n (by omega) rfl))) (by first | exact fs_c rfl | exact (fs_n (by omega) rfl))) s2039_ (fun _ => (by first | exact fs_c rfl | exact (fs_n (by omega) rfl))) (by first | exact fs_c rfl | exact (fs_n (by omega) rfl))) s2049_ (fun _ => (by first | exact fs_c rfl | exact (fs_n (by omega) (fs_n (by omega) rfl)))) (by first | exact fs_c rfl | exact (fs_n (by omega) (fs_n (by omega) rfl)))) s2059_ (fun _ => (by first | exact fs_c rfl | exact (fs_n (by omega) (fs_n (by omega) rfl)))) (by first | exact fs_c rfl | exact (fs_n (by omega) (fs_n (by omega) rfl)))) s2069_ (fun _ => (by first | exact fs_c rfl | exact (fs_n (by omega) (fs_n (by omega) rfl)))) (by first | exact fs_c rfl | exact (fs_n (by omega) (fs_n (by omega) rfl)))) hf_F1 (fun _ => (by first | exact fs_c rfl | exact (fs_n (by omega) (fs_n (by omega) (fs_n (by omega) (fs_n (by omega) rfl)))))) (by first | exact fs_c rfl | exact (fs_n (by omega) (fs_n (by omega) (fs_n (by omega) (fs_n (by omega) rfl)))))) s2361_ (fun _ => (by first | exact fs_c rfl | exact (fs_n (by omega) (fs_n (by omega) (fs_n (by omega) (fs_n (by omega) rfl)))))) (by first | exact fs_c rfl | exact (fs_n (by omega) (fs_n (by omega) (fs_n (by omega) (fs_n (by omega) rfl)))))) s2425_ (fun _ => (by first | exact fs_c rfl | exact (fs_n (by omega) (fs_n (by omega) rfl)))) (by first | exact fs_c rfl | exact (fs_n (by omega) (fs_n (by omega) rfl)))) s2568_ (fun _ => (by first | exact fs_c rfl | exact (fs_n (by omega) (fs_n (by omega) rfl)))) (by first | exact fs_c rfl | exact (fs_n (by omega) (fs_n (by omega) rfl)))) s2578_ (fun _ => (by first | exact fs_c rfl | exact (fs_n (by omega) (fs_n (by omega) rfl)))) (by first | exact fs_c rfl | exact (fs_n (by omega) (fs_n (by omega) rfl)))) s2588_ (fun _ => (by first | exact fs_c rfl | exact (fs_n (by omega) (fs_n (by omega) (fs_n (by omega) (fs_n (by omega) rfl)))))) (by first | exact fs_c rfl | exact (fs_n (by omega) (fs_n (by omega) (fs_n (by omega) (fs_n (by omega) rfl)))))) s2598_ (fun _ => (by first | exact fs_c rfl | exact (fs_n (by omega) (fs_n (by omega) rfl)))) (by first | exact fs_c rfl | exact (fs_n (by omega) (fs_n (by omega) rfl)))) s2608_ (fun _ => (by first | exact fs_c rfl | exact (fs_n (by omega) (fs_n (by omega) rfl)))) (by first | exact fs_c rfl | exact (fs_n (by omega) (fs_n (by omega) rfl)))) s2618_ (fun _ => (by first | exact fs_c rfl | exact (fs_n (by omega) (fs_n (by omega) rfl)))) (by first | exact fs_c rfl | exact (fs_n (by omega) (fs_n (by omega) rfl)))) (by first | decide | exact nc_ rfl | omega) (by first | decide | exact nc_ rfl | omega)))) (⟨(by rw [q2622_]; exact (rprd_u (rprd_fs (rprd_fs (rprd_fs (rprd_fs (rprd_fs (rprd_fs (rprd_fs (rprd_fs (rprd_fs (rprd_fs (rprd_fs (rprd_fs (rprd_fs (rprd_fs (rprd_fs (rprd_fs (rprd_fs (rprd_fs (rprd_fs (rprd_fs (rprd_fs (rprd_fs (rprd_fs hps.1 s8_ (by first | exact fs_rg rfl | exact fun r j hj => (fs_n (by omega) (fs_n (by omega) rfl)))) s18_ (by first | exact fs_rg rfl | exact fun r j hj => (fs_n (by omega) (fs_n (by omega) rfl)))) s28_ (by first | exact fs_rg rfl | exact fun r j hj => (fs_n (by omega) (fs_n (by omega) rfl)))) s38_ (by first | exact fs_rg rfl | exact fun r j hj => (fs_n (by omega) (fs_n (by omega) rfl)))) s50_ (by first | exact fs_rg rfl | exact fun r j hj => (fs_n (by omega) rfl))) s59_ (by first | exact fs_rg rfl | exact fun r j hj => (fs_n (by omega) rfl))) s69_ (by first | exact fs_rg rfl | exact fun r j hj => (fs_n (by omega) (fs_n (by omega) rfl)))) s79_ (by first | exact fs_rg rfl | exact fun r j hj => (fs_n (by omega) (fs_n (by omega) rfl)))) s89_ (by first | exact fs_rg rfl | exact fun r j hj => (fs_n (by omega) (fs_n (by omega) rfl)))) s101_ (by first | exact fs_rg rfl | exact fun r j hj => (fs_n (by omega) rfl))) s2039_ (by first | exact fs_rg rfl | exact fun r j hj => (fs_n (by omega) rfl))) s2049_ (by first | exact fs_rg rfl | exact fun r j hj => (fs_n (by omega) (fs_n (by omega) rfl)))) s2059_ (by first | exact fs_rg rfl | exact fun r j hj => (fs_n (by omega) (fs_n (by omega) rfl)))) s2069_ (by first | exact fs_rg rfl | exact fun r j hj => (fs_n (by omega) (fs_n (by omega) rfl)))) hf_F1 (by first | exact fs_rg rfl | exact fun r j hj => (fs_n (by omega) (fs_n (by omega) (fs_n (by omega) (fs_n (by omega) rfl)))))) s2361_ (by first | exact fs_rg rfl | exact fun r j hj => (fs_n (by omega) (fs_n (by omega) (fs_n (by omega) (fs_n (by omega) rfl)))))) s2425_ (by first | exact fs_rg rfl | exact fun r j hj => (fs_n (by omega) (fs_n (by omega) rfl)))) s2568_ (by first | exact fs_rg rfl | exact fun r j hj => (fs_n (by omega) (fs_n (by omega) rfl)))) s2578_ (by first | exact fs_rg rfl | exact fun r j hj => (fs_n (by omega) (fs_n (by omega) rfl)))) s2588_ (by first | exact fs_rg rfl | exact fun r j hj => (fs_n (by omega) (fs_n (by omega) (fs_n (by omega) (fs_n (by omega) rfl)))))) s2598_ (by first | exact fs_rg rfl | exact fun r j hj => (fs_n (by omega) (fs_n (by omega) rfl)))) s2608_ (by first | exact fs_rg rfl | exact fun r j hj => (fs_n (by omega) (fs_n (by omega) rfl)))) s2618_ (by first | exact fs_rg rfl | exact fun r j hj => (fs_n (by omega) (fs_n (by omega) rfl)))) (by first | decide | exact nc_ rfl | omega))), hps.2⟩) (⟨by omega, by omega⟩) (Or.inr (by omega)) (by rw [q2622_]; exact fl_u_eq)) (fun _ _ h => False.elim h) ?_
          have e2629_ : F2621_ 344 9 = F2616_ 344 9 := by rw [q2622_]; exact fl_u_ne (by first | exact nc_ rfl | decide | omega)
          have b2630_ : 0 ≤ F2616_ 344 9 ∧ F2616_ 344 9 ≤ 5 := gi_g g2617_ rfl
          rintro A1_ ⟨F2633_, hA_, g2634_, s2635_, c2631_, c2632_⟩
          subst hA_
          have g2636_ : fs [(344, 344, 5, 5), (344, 344, 9, 10), (344, 344, 33, 33), (344, 344, 36, 36), (344, 344, 64, 64), (358, 358, 0, 100000), (360, 366, 0, 100000)] F F2633_ := fs_tr g2624_ s2635_ rfl
          have rk2637_ : rk K F2633_ := rk_fs rk2625_ s2635_ (fs_rg rfl) rfl
          try simp only [e2629_] at c2631_
          refine ga_aload_n (v := .ref 344) hm_184 rfl rfl rfl ?_
          refine fl_bipush hm_184 rfl rfl ?_
          have b2638_ : 0 ≤ F2633_ 344 5 ∧ F2633_ 344 5 ≤ 600 := gi_g g2634_ rfl
          refine gVv (nY := 2) (F := 2) (L := 41) (As := [.int (Int32.ofInt 41)]) (b := 344) (rest := []) hm_184 rfl hm_51 rfl rfl (fl_ob sc_344) rfl rfl rfl rfl rfl (by omega) (by omega) (mc_51s hG F2633_ X g2634_ (K) (41) (1) hgK rk2637_ hkt (⟨by omega, by omega⟩) (by omega) (by omega)) (fun _ _ h => False.elim h) ?_
          have b2640_ : 0 ≤ F2633_ 344 9 ∧ F2633_ 344 9 ≤ 5 := gi_g g2634_ rfl
          rintro A1_ ⟨F2643_, hA_, g2644_, s2645_, c2641_, c2642_⟩
          subst hA_
          have g2646_ : fs [(344, 344, 5, 5), (344, 344, 9, 10), (344, 344, 33, 33), (344, 344, 36, 36), (344, 344, 64, 64), (358, 358, 0, 100000), (360, 366, 0, 100000)] F F2643_ := fs_tr g2636_ s2645_ rfl
          have rk2647_ : rk K F2643_ := rk_fs rk2637_ s2645_ (fs_rg rfl) rfl
          refine ga_aload_n (v := .ref 344) hm_184 rfl rfl rfl ?_
          refine fl_bipush hm_184 rfl rfl ?_
          have b2648_ : 0 ≤ F2643_ 344 5 ∧ F2643_ 344 5 ≤ 600 := gi_g g2644_ rfl
          refine gVv (nY := 2) (F := 2) (L := 41) (As := [.int (Int32.ofInt 41)]) (b := 344) (rest := []) hm_184 rfl hm_51 rfl rfl (fl_ob sc_344) rfl rfl rfl rfl rfl (by omega) (by omega) (mc_51s hG F2643_ X g2644_ (K) (41) (1) hgK rk2647_ hkt (⟨by omega, by omega⟩) (by omega) (by omega)) (fun _ _ h => False.elim h) ?_
          have b2650_ : 0 ≤ F2643_ 344 9 ∧ F2643_ 344 9 ≤ 5 := gi_g g2644_ rfl
          rintro A1_ ⟨F2653_, hA_, g2654_, s2655_, c2651_, c2652_⟩
          subst hA_
          have g2656_ : fs [(344, 344, 5, 5), (344, 344, 9, 10), (344, 344, 33, 33), (344, 344, 36, 36), (344, 344, 64, 64), (358, 358, 0, 100000), (360, 366, 0, 100000)] F F2653_ := fs_tr g2646_ s2655_ rfl
          have rk2657_ : rk K F2653_ := rk_fs rk2647_ s2655_ (fs_rg rfl) rfl
          refine ga_aload_n (v := .ref 344) hm_184 rfl rfl rfl ?_
          refine gIi (nY := 1) (F := 0) (L := 0) (As := []) (b := 344) (rest := []) hm_184 rfl hm_59 rfl rfl (fl_ob sc_344) rfl rfl rfl rfl rfl (by omega) (by omega) ?_
          intro f2658_ l2659_ h2660_ h2661_
          show fl_R xi_ms 59 f2658_ l2659_ 0 [(0, .ref 344)] [] _ _
          refine ga_aload_n (v := .ref 344) hm_59 rfl rfl rfl ?_
          have b2662_ : 0 ≤ F2653_ 344 9 ∧ F2653_ 344 9 ≤ 5 := gi_g g2654_ rfl
          refine ga_geti (z := F2653_ 344 9) hm_59 rfl sc_344 rfl (rfl) ?_
          refine fl_if_le (a := F2653_ 344 9) hm_59 rfl ⟨by omega, by omega⟩ (fun h2663_ => ?_) (fun h2664_ => ?_)
          ·
            refine fl_iconst hm_59 rfl ?_
            refine gr_i hm_59 rfl rfl (ga_nb (by omega)) ?_
            clear h2660_ h2661_ f2658_ l2659_
            refine fl_if_ne hm_184 rfl ⟨by omega, by omega⟩ (fun h => absurd h (by omega)) (fun _ => ?_)
            refine ga_aload_n (v := .ref 344) hm_184 rfl rfl rfl ?_
            have b2665_ : 0 ≤ F2653_ 344 5 ∧ F2653_ 344 5 ≤ 600 := gi_g g2654_ rfl
            refine ga_geti (z := F2653_ 344 5) hm_184 rfl sc_344 rfl (rfl) ?_
            refine ga_aload_n (v := .ref 344) hm_184 rfl rfl rfl ?_
            have e2666_ : F2653_ 344 4 = K 1 6 - 1 := rk2657_.2.1
            refine ga_geti (z := K 1 6 - 1) hm_184 rfl sc_344 rfl (e2666_) ?_
            refine fl_icmp_ge (a := F2653_ 344 5) (b := K 1 6 - 1) hm_184 rfl ⟨by omega, by omega⟩ ⟨by omega, by omega⟩ (fun h2667_ => ?_) (fun h2668_ => ?_)
            ·
              refine gr_v hm_184 rfl rfl ?_
              exact ⟨F2653_, rfl, g2654_, g2656_, (⟨by omega, by omega⟩)⟩
            refine ga_aload_n (v := .ref 344) hm_184 rfl rfl rfl ?_
            refine fl_iconst hm_184 rfl ?_
            refine gVv (nY := 2) (F := 0) (L := 0) (As := [.int (Int32.ofInt 1)]) (b := 344) (rest := []) hm_184 rfl hm_54 rfl rfl (fl_ob sc_344) rfl rfl rfl rfl rfl (by omega) (by omega) (mc_54 hG F2653_ X g2654_ (K) (1) hgK rk2657_ hkt (⟨by omega, by omega⟩) (⟨by omega, by omega⟩)) (fun _ _ h => False.elim h) ?_
            have b2670_ : 0 ≤ F2653_ 344 10 ∧ F2653_ 344 10 ≤ 600 := gi_g g2654_ rfl
            rintro A1_ ⟨F2674_, hA_, g2675_, s2676_, c2671_, c2672_, c2673_⟩
            subst hA_
            have g2677_ : fs [(344, 344, 5, 5), (344, 344, 9, 10), (344, 344, 33, 33), (344, 344, 36, 36), (344, 344, 64, 64), (358, 358, 0, 100000), (360, 366, 0, 100000)] F F2674_ := fs_tr g2656_ s2676_ rfl
            have rk2678_ : rk K F2674_ := rk_fs rk2657_ s2676_ (fs_rg rfl) rfl
            have c2672_s := c2672_.1 (by omega)
            clear c2672_
            refine gr_v hm_184 rfl rfl ?_
            have e2679_ : F2674_ 344 5 = F2653_ 344 5 := (s2676_ 344 5 rfl).trans (rfl)
            exact ⟨F2674_, rfl, g2675_, g2677_, (⟨by omega, by omega⟩)⟩
          refine fl_iconst hm_59 rfl ?_
          refine fl_goto hm_59 rfl ?_
          refine gr_i hm_59 rfl rfl (ga_nb (by omega)) ?_
          clear h2660_ h2661_ f2658_ l2659_
          refine fl_if_ne hm_184 rfl ⟨by omega, by omega⟩ (fun _ => ?_) (fun h => absurd (by omega) h)
          refine gr_v hm_184 rfl rfl ?_
          have b2680_ : 0 ≤ F2653_ 344 5 ∧ F2653_ 344 5 ≤ 600 := gi_g g2654_ rfl
          exact ⟨F2653_, rfl, g2654_, g2656_, (⟨by omega, by omega⟩)⟩
        exfalso; omega
      exfalso; omega
    have b2681_ : 0 ≤ F2067_ 344 5 ∧ F2067_ 344 5 ≤ 600 := gi_g g2068_ rfl
    have b2682_ : 0 ≤ K 1 6 ∧ K 1 6 ≤ 601 := gi_g hgK rfl
    have e2683_ : F6_ 5 2 = F 5 2 := (s8_ 5 2 rfl).trans (rfl)
    have e2684_ : F16_ 5 2 = F 5 2 := (s18_ 5 2 rfl).trans (e2683_)
    have e2685_ : F26_ 5 2 = F 5 2 := (s28_ 5 2 rfl).trans (e2684_)
    have e2686_ : F36_ 5 2 = F 5 2 := (s38_ 5 2 rfl).trans (e2685_)
    have e2687_ : F48_ 5 2 = F 5 2 := (s50_ 5 2 rfl).trans (e2686_)
    have e2688_ : F57_ 5 2 = F 5 2 := (s59_ 5 2 rfl).trans (e2687_)
    have e2689_ : F67_ 5 2 = F 5 2 := (s69_ 5 2 rfl).trans (e2688_)
    have e2690_ : F77_ 5 2 = F 5 2 := (s79_ 5 2 rfl).trans (e2689_)
    have e2691_ : F87_ 5 2 = F 5 2 := (s89_ 5 2 rfl).trans (e2690_)
    have e2692_ : F99_ 5 2 = F 5 2 := (s101_ 5 2 rfl).trans (e2691_)
    have e2693_ : F2037_ 5 2 = F 5 2 := (s2039_ 5 2 rfl).trans (e2692_)
    have e2694_ : F2047_ 5 2 = F 5 2 := (s2049_ 5 2 rfl).trans (e2693_)
    have e2695_ : F2057_ 5 2 = F 5 2 := (s2059_ 5 2 rfl).trans (e2694_)
    have e2696_ : F2067_ 5 2 = F 5 2 := (s2069_ 5 2 rfl).trans (e2695_)
    have b2697_ : 0 ≤ F 5 2 ∧ F 5 2 ≤ 600 := gi_g hgi rfl
    have e2698_ : F6_ 344 33 = F 344 33 := (s8_ 344 33 rfl).trans (rfl)
    have e2699_ : F16_ 344 33 = F 344 33 := (s18_ 344 33 rfl).trans (e2698_)
    have e2700_ : F26_ 344 33 = F 344 33 := (s28_ 344 33 rfl).trans (e2699_)
    have e2701_ : F36_ 344 33 = F 344 33 := (s38_ 344 33 rfl).trans (e2700_)
    have e2702_ : F48_ 344 33 = F 344 33 := (s50_ 344 33 rfl).trans (e2701_)
    have e2703_ : F57_ 344 33 = F 344 33 := (s59_ 344 33 rfl).trans (e2702_)
    have e2704_ : F67_ 344 33 = F 344 33 := (s69_ 344 33 rfl).trans (e2703_)
    have e2705_ : F77_ 344 33 = F 344 33 := (s79_ 344 33 rfl).trans (e2704_)
    have e2706_ : F87_ 344 33 = F 344 33 := (s89_ 344 33 rfl).trans (e2705_)
    have e2707_ : F99_ 344 33 = F 344 33 := (s101_ 344 33 rfl).trans (e2706_)
    have e2708_ : F2037_ 344 33 = F 344 33 := (s2039_ 344 33 rfl).trans (e2707_)
    have e2709_ : F2047_ 344 33 = F 344 33 := (s2049_ 344 33 rfl).trans (e2708_)
    have e2710_ : F2057_ 344 33 = F 344 33 := (s2059_ 344 33 rfl).trans (e2709_)
    have e2711_ : F2067_ 344 33 = F 344 33 := (s2069_ 344 33 rfl).trans (e2710_)
    have b2712_ : 0 ≤ F 344 33 ∧ F 344 33 ≤ 6 := gi_g hgi rfl
    exact L2075_ _ (1) ([]) ([]) F2067_ rfl g2068_ fs_refl (by omega) (⟨by omega, by omega⟩) (⟨by omega, by omega⟩) (⟨(trm_fs (trm_fs (trm_fs (trm_fs (trm_fs (trm_fs (trm_fs (trm_fs (trm_fs (trm_fs (trm_fs (trm_fs (trm_fs (trm_fs (tr5_0 h33) s8_ (by first | exact fs_rg rfl | exact fun r j hj => (fs_n (by omega) (fs_n (by omega) rfl)))) s18_ (by first | exact fs_rg rfl | exact fun r j hj => (fs_n (by omega) (fs_n (by omega) rfl)))) s28_ (by first | exact fs_rg rfl | exact fun r j hj => (fs_n (by omega) (fs_n (by omega) rfl)))) s38_ (by first | exact fs_rg rfl | exact fun r j hj => (fs_n (by omega) (fs_n (by omega) rfl)))) s50_ (by first | exact fs_rg rfl | exact fun r j hj => (fs_n (by omega) rfl))) s59_ (by first | exact fs_rg rfl | exact fun r j hj => (fs_n (by omega) rfl))) s69_ (by first | exact fs_rg rfl | exact fun r j hj => (fs_n (by omega) (fs_n (by omega) rfl)))) s79_ (by first | exact fs_rg rfl | exact fun r j hj => (fs_n (by omega) (fs_n (by omega) rfl)))) s89_ (by first | exact fs_rg rfl | exact fun r j hj => (fs_n (by omega) (fs_n (by omega) rfl)))) s101_ (by first | exact fs_rg rfl | exact fun r j hj => (fs_n (by omega) rfl))) s2039_ (by first | exact fs_rg rfl | exact fun r j hj => (fs_n (by omega) rfl))) s2049_ (by first | exact fs_rg rfl | exact fun r j hj => (fs_n (by omega) (fs_n (by omega) rfl)))) s2059_ (by first | exact fs_rg rfl | exact fun r j hj => (fs_n (by omega) (fs_n (by omega) rfl)))) s2069_ (by first | exact fs_rg rfl | exact fun r j hj => (fs_n (by omega) (fs_n (by omega) rfl)))), rfl⟩)
  refine fl_iconst hm_184 rfl ?_
  refine ga_istore_n (lv2 := [(3, .int (Int32.ofInt 1)), (1, .long (Int64.ofInt z93_)), (0, .ref 344)]) hm_184 rfl (Nat.le_of_ble_eq_true rfl) rfl ?_
  refine ga_iload_n (z := 1) hm_184 rfl rfl ?_
  refine fl_if_eq hm_184 rfl ⟨by omega, by omega⟩ (fun h => absurd h (by omega)) (fun _ => ?_)
  refine ga_aload_n (v := .ref 344) hm_184 rfl rfl rfl ?_
  refine gIi (nY := 1) (F := 0) (L := 0) (As := []) (b := 344) (rest := []) hm_184 rfl hm_59 rfl rfl (fl_ob sc_344) rfl rfl rfl rfl rfl (by omega) (by omega) ?_
  intro f2713_ l2714_ h2715_ h2716_
  show fl_R xi_ms 59 f2713_ l2714_ 0 [(0, .ref 344)] [] _ _
  refine ga_aload_n (v := .ref 344) hm_59 rfl rfl rfl ?_
  refine ga_geti (z := F2067_ 344 9) hm_59 rfl sc_344 rfl (rfl) ?_
  refine fl_if_le (a := F2067_ 344 9) hm_59 rfl ⟨by omega, by omega⟩ (fun h2717_ => ?_) (fun h2718_ => ?_)
  · exfalso; omega
  refine fl_iconst hm_59 rfl ?_
  refine fl_goto hm_59 rfl ?_
  refine gr_i hm_59 rfl rfl (ga_nb (by omega)) ?_
  clear h2715_ h2716_ f2713_ l2714_
  refine fl_if_ne hm_184 rfl ⟨by omega, by omega⟩ (fun _ => ?_) (fun h => absurd (by omega) h)
  refine ga_aload_n (v := .ref 344) hm_184 rfl rfl rfl ?_
  refine fl_bipush hm_184 rfl rfl ?_
  have b2719_ : 0 ≤ F2067_ 344 5 ∧ F2067_ 344 5 ≤ 600 := gi_g g2068_ rfl
  refine gVv (nY := 2) (F := 2) (L := 41) (As := [.int (Int32.ofInt 41)]) (b := 344) (rest := []) hm_184 rfl hm_51 rfl rfl (fl_ob sc_344) rfl rfl rfl rfl rfl (by omega) (by omega) (mc_51s hG F2067_ X g2068_ (K) (41) (1) hgK rk2071_ hkt (⟨by omega, by omega⟩) (by omega) (by omega)) (fun _ _ h => False.elim h) ?_
  rintro A1_ ⟨F2723_, hA_, g2724_, s2725_, c2721_, c2722_⟩
  subst hA_
  have g2726_ : fs [(344, 344, 5, 5), (344, 344, 9, 10), (344, 344, 33, 33), (344, 344, 36, 36), (344, 344, 64, 64), (358, 358, 0, 100000), (360, 366, 0, 100000)] F F2723_ := fs_tr g2070_ s2725_ rfl
  have rk2727_ : rk K F2723_ := rk_fs rk2071_ s2725_ (fs_rg rfl) rfl
  refine ga_aload_n (v := .ref 344) hm_184 rfl rfl rfl ?_
  refine gIi (nY := 1) (F := 0) (L := 0) (As := []) (b := 344) (rest := []) hm_184 rfl hm_59 rfl rfl (fl_ob sc_344) rfl rfl rfl rfl rfl (by omega) (by omega) ?_
  intro f2728_ l2729_ h2730_ h2731_
  show fl_R xi_ms 59 f2728_ l2729_ 0 [(0, .ref 344)] [] _ _
  refine ga_aload_n (v := .ref 344) hm_59 rfl rfl rfl ?_
  have b2732_ : 0 ≤ F2723_ 344 9 ∧ F2723_ 344 9 ≤ 5 := gi_g g2724_ rfl
  refine ga_geti (z := F2723_ 344 9) hm_59 rfl sc_344 rfl (rfl) ?_
  refine fl_if_le (a := F2723_ 344 9) hm_59 rfl ⟨by omega, by omega⟩ (fun h2733_ => ?_) (fun h2734_ => ?_)
  ·
    refine fl_iconst hm_59 rfl ?_
    refine gr_i hm_59 rfl rfl (ga_nb (by omega)) ?_
    clear h2730_ h2731_ f2728_ l2729_
    refine fl_if_ne hm_184 rfl ⟨by omega, by omega⟩ (fun h => absurd h (by omega)) (fun _ => ?_)
    refine ga_aload_n (v := .ref 344) hm_184 rfl rfl rfl ?_
    refine gVv (nY := 6) (F := 1) (L := 22) (As := []) (b := 344) (rest := []) hm_184 rfl hm_171 rfl rfl (fl_ob sc_344) rfl rfl rfl rfl rfl (by omega) (by omega) (mc_171 hG F2723_ X g2724_) (fun _ _ h => False.elim h) ?_
    rintro A1_ ⟨F2736_, hA_, g2737_, s2738_⟩
    subst hA_
    have g2739_ : fs [(344, 344, 5, 5), (344, 344, 9, 10), (344, 344, 33, 33), (344, 344, 36, 36), (344, 344, 64, 64), (358, 358, 0, 100000), (360, 366, 0, 100000)] F F2736_ := fs_tr g2726_ s2738_ rfl
    have rk2740_ : rk K F2736_ := rk_fs rk2727_ s2738_ (fs_rg rfl) rfl
    refine ga_aload_n (v := .ref 344) hm_184 rfl rfl rfl ?_
    refine fl_bipush hm_184 rfl rfl ?_
    have e2741_ : F2736_ 344 5 = F2723_ 344 5 := (s2738_ 344 5 rfl).trans (rfl)
    have b2742_ : 0 ≤ F2723_ 344 5 ∧ F2723_ 344 5 ≤ 600 := gi_g g2724_ rfl
    refine gVv (nY := 2) (F := 2) (L := 41) (As := [.int (Int32.ofInt 40)]) (b := 344) (rest := []) hm_184 rfl hm_51 rfl rfl (fl_ob sc_344) rfl rfl rfl rfl rfl (by omega) (by omega) (mc_51s hG F2736_ X g2737_ (K) (40) (0) hgK rk2740_ hkt (⟨by omega, by omega⟩) (by omega) (by omega)) (fun _ _ h => False.elim h) ?_
    have e2744_ : F2736_ 344 9 = F2723_ 344 9 := (s2738_ 344 9 rfl).trans (rfl)
    rintro A1_ ⟨F2747_, hA_, g2748_, s2749_, c2745_, c2746_⟩
    subst hA_
    have g2750_ : fs [(344, 344, 5, 5), (344, 344, 9, 10), (344, 344, 33, 33), (344, 344, 36, 36), (344, 344, 64, 64), (358, 358, 0, 100000), (360, 366, 0, 100000)] F F2747_ := fs_tr g2739_ s2749_ rfl
    have rk2751_ : rk K F2747_ := rk_fs rk2740_ s2749_ (fs_rg rfl) rfl
    try simp only [e2744_] at c2745_
    refine ga_aload_n (v := .ref 344) hm_184 rfl rfl rfl ?_
    refine fl_bipush hm_184 rfl rfl ?_
    have b2752_ : 0 ≤ F2747_ 344 5 ∧ F2747_ 344 5 ≤ 600 := gi_g g2748_ rfl
    refine gVv (nY := 2) (F := 2) (L := 44) (As := [.int (Int32.ofInt 16)]) (b := 344) (rest := []) hm_184 rfl hm_55 rfl rfl (fl_ob sc_344) rfl rfl rfl rfl rfl (by omega) (by omega) (mc_55s hG F2747_ X g2748_ (K) (16) ([58, 105, 110, 105, 116]) hgK rk2751_ hkt (⟨by omega, by omega⟩) (⟨by omega, by omega⟩) (by decide) (kw_16 rk2751_)) (fun _ _ h => False.elim h) ?_
    have b2754_ : 0 ≤ F2747_ 344 9 ∧ F2747_ 344 9 ≤ 5 := gi_g g2748_ rfl
    rintro A1_ ⟨F2757_, hA_, g2758_, s2759_, c2755_, c2756_⟩
    subst hA_
    have g2760_ : fs [(344, 344, 5, 5), (344, 344, 9, 10), (344, 344, 33, 33), (344, 344, 36, 36), (344, 344, 64, 64), (358, 358, 0, 100000), (360, 366, 0, 100000)] F F2757_ := fs_tr g2750_ s2759_ rfl
    have rk2761_ : rk K F2757_ := rk_fs rk2751_ s2759_ (fs_rg rfl) rfl
    refine ga_aload_n (v := .ref 344) hm_184 rfl rfl rfl ?_
    have b2762_ : 0 ≤ F2757_ 344 5 ∧ F2757_ 344 5 ≤ 600 := gi_g g2758_ rfl
    refine gVv (nY := 2) (F := 5) (L := 117) (As := []) (b := 344) (rest := []) hm_184 rfl hm_178 rfl rfl (fl_ob sc_344) rfl rfl rfl rfl rfl (by omega) (by omega) (mc_178 hG F2757_ X g2758_ (K) ([]) ([]) (pl) (ps) hgK rk2761_ hkt (⟨by omega, by omega⟩) ((trm_fs (trm_fs (trm_fs (trm_fs (trm_fs (trm_fs (trm_fs (trm_fs (trm_fs (trm_fs (trm_fs (trm_fs (trm_fs (trm_fs (trm_fs (trm_fs (trm_fs (trm_fs (tr5_0 h33) s8_ (by first | exact fs_rg rfl | exact fun r j hj => (fs_n (by omega) (fs_n (by omega) rfl)))) s18_ (by first | exact fs_rg rfl | exact fun r j hj => (fs_n (by omega) (fs_n (by omega) rfl)))) s28_ (by first | exact fs_rg rfl | exact fun r j hj => (fs_n (by omega) (fs_n (by omega) rfl)))) s38_ (by first | exact fs_rg rfl | exact fun r j hj => (fs_n (by omega) (fs_n (by omega) rfl)))) s50_ (by first | exact fs_rg rfl | exact fun r j hj => (fs_n (by omega) rfl))) s59_ (by first | exact fs_rg rfl | exact fun r j hj => (fs_n (by omega) rfl))) s69_ (by first | exact fs_rg rfl | exact fun r j hj => (fs_n (by omega) (fs_n (by omega) rfl)))) s79_ (by first | exact fs_rg rfl | exact fun r j hj => (fs_n (by omega) (fs_n (by omega) rfl)))) s89_ (by first | exact fs_rg rfl | exact fun r j hj => (fs_n (by omega) (fs_n (by omega) rfl)))) s101_ (by first | exact fs_rg rfl | exact fun r j hj => (fs_n (by omega) rfl))) s2039_ (by first | exact fs_rg rfl | exact fun r j hj => (fs_n (by omega) rfl))) s2049_ (by first | exact fs_rg rfl | exact fun r j hj => (fs_n (by omega) (fs_n (by omega) rfl)))) s2059_ (by first | exact fs_rg rfl | exact fun r j hj => (fs_n (by omega) (fs_n (by omega) rfl)))) s2069_ (by first | exact fs_rg rfl | exact fun r j hj => (fs_n (by omega) (fs_n (by omega) rfl)))) s2725_ (by first | exact fs_rg rfl | exact fun r j hj => (fs_n (by omega) (fs_n (by omega) rfl)))) s2738_ (by first | exact fs_rg rfl | exact fun r j hj => (fs_n (by omega) (fs_n (by omega) rfl)))) s2749_ (by first | exact fs_rg rfl | exact fun r j hj => (fs_n (by omega) (fs_n (by omega) rfl)))) s2759_ (by first | exact fs_rg rfl | exact fun r j hj => (fs_n (by omega) (fs_n (by omega) rfl))))) (rfl) ((rpn_fs (rpn_fs (rpn_fs (rpn_fs (rpn_fs (rpn_fs (rpn_fs (rpn_fs (rpn_fs (rpn_fs (rpn_fs (rpn_fs (rpn_fs (rpn_fs (rpn_fs (rpn_fs (rpn_fs (rpn_fs hpl s8_ (fun _ => (by first | exact fs_c rfl | exact (fs_n (by omega) (fs_n (by omega) rfl)))) (by first | exact fs_c rfl | exact (fs_n (by omega) (fs_n (by omega) rfl)))) s18_ (fun _ => (by first | exact fs_c rfl | exact (fs_n (by omega) (fs_n (by omega) rfl)))) (by first | exact fs_c rfl | exact (fs_n (by omega) (fs_n (by omega) rfl)))) s28_ (fun _ => (by first | exact fs_c rfl | exact (fs_n (by omega) (fs_n (by omega) rfl)))) (by first | exact fs_c rfl | exact (fs_n (by omega) (fs_n (by omega) rfl)))) s38_ (fun _ => (by first | exact fs_c rfl | exact (fs_n (by omega) (fs_n (by omega) rfl)))) (by first | exact fs_c rfl | exact (fs_n (by omega) (fs_n (by omega) rfl)))) s50_ (fun _ => (by first | exact fs_c rfl | exact (fs_n (by omega) rfl))) (by first | exact fs_c rfl | exact (fs_n (by omega) rfl))) s59_ (fun _ => (by first | exact fs_c rfl | exact (fs_n (by omega) rfl))) (by first | exact fs_c rfl | exact (fs_n (by omega) rfl))) s69_ (fun _ => (by first | exact fs_c rfl | exact (fs_n (by omega) (fs_n (by omega) rfl)))) (by first | exact fs_c rfl | exact (fs_n (by omega) (fs_n (by omega) rfl)))) s79_ (fun _ => (by first | exact fs_c rfl | exact (fs_n (by omega) (fs_n (by omega) rfl)))) (by first | exact fs_c rfl | exact (fs_n (by omega) (fs_n (by omega) rfl)))) s89_ (fun _ => (by first | exact fs_c rfl | exact (fs_n (by omega) (fs_n (by omega) rfl)))) (by first | exact fs_c rfl | exact (fs_n (by omega) (fs_n (by omega) rfl)))) s101_ (fun _ => (by first | exact fs_c rfl | exact (fs_n (by omega) rfl))) (by first | exact fs_c rfl | exact (fs_n (by omega) rfl))) s2039_ (fun _ => (by first | exact fs_c rfl | exact (fs_n (by omega) rfl))) (by first | exact fs_c rfl | exact (fs_n (by omega) rfl))) s2049_ (fun _ => (by first | exact fs_c rfl | exact (fs_n (by omega) (fs_n (by omega) rfl)))) (by first | exact fs_c rfl | exact (fs_n (by omega) (fs_n (by omega) rfl)))) s2059_ (fun _ => (by first | exact fs_c rfl | exact (fs_n (by omega) (fs_n (by omega) rfl)))) (by first | exact fs_c rfl | exact (fs_n (by omega) (fs_n (by omega) rfl)))) s2069_ (fun _ => (by first | exact fs_c rfl | exact (fs_n (by omega) (fs_n (by omega) rfl)))) (by first | exact fs_c rfl | exact (fs_n (by omega) (fs_n (by omega) rfl)))) s2725_ (fun _ => (by first | exact fs_c rfl | exact (fs_n (by omega) (fs_n (by omega) rfl)))) (by first | exact fs_c rfl | exact (fs_n (by omega) (fs_n (by omega) rfl)))) s2738_ (fun _ => (by first | exact fs_c rfl | exact (fs_n (by omega) (fs_n (by omega) rfl)))) (by first | exact fs_c rfl | exact (fs_n (by omega) (fs_n (by omega) rfl)))) s2749_ (fun _ => (by first | exact fs_c rfl | exact (fs_n (by omega) (fs_n (by omega) rfl)))) (by first | exact fs_c rfl | exact (fs_n (by omega) (fs_n (by omega) rfl)))) s2759_ (fun _ => (by first | exact fs_c rfl | exact (fs_n (by omega) (fs_n (by omega) rfl)))) (by first | exact fs_c rfl | exact (fs_n (by omega) (fs_n (by omega) rfl))))) (⟨(rprd_fs (rprd_fs (rprd_fs (rprd_fs (rprd_fs (rprd_fs (rprd_fs (rprd_fs (rprd_fs (rprd_fs (rprd_fs (rprd_fs (rprd_fs (rprd_fs (rprd_fs (rprd_fs (rprd_fs (rprd_fs hps.1 s8_ (by first | exact fs_rg rfl | exact fun r j hj => (fs_n (by omega) (fs_n (by omega) rfl)))) s18_ (by first | exact fs_rg rfl | exact fun r j hj => (fs_n (by omega) (fs_n (by omega) rfl)))) s28_ (by first | exact fs_rg rfl | exact fun r j hj => (fs_n (by omega) (fs_n (by omega) rfl)))) s38_ (by first | exact fs_rg rfl | exact fun r j hj => (fs_n (by omega) (fs_n (by omega) rfl)))) s50_ (by first | exact fs_rg rfl | exact fun r j hj => (fs_n (by omega) rfl))) s59_ (by first | exact fs_rg rfl | exact fun r j hj => (fs_n (by omega) rfl))) s69_ (by first | exact fs_rg rfl | exact fun r j hj => (fs_n (by omega) (fs_n (by omega) rfl)))) s79_ (by first | exact fs_rg rfl | exact fun r j hj => (fs_n (by omega) (fs_n (by omega) rfl)))) s89_ (by first | exact fs_rg rfl | exact fun r j hj => (fs_n (by omega) (fs_n (by omega) rfl)))) s101_ (by first | exact fs_rg rfl | exact fun r j hj => (fs_n (by omega) rfl))) s2039_ (by first | exact fs_rg rfl | exact fun r j hj => (fs_n (by omega) rfl))) s2049_ (by first | exact fs_rg rfl | exact fun r j hj => (fs_n (by omega) (fs_n (by omega) rfl)))) s2059_ (by first | exact fs_rg rfl | exact fun r j hj => (fs_n (by omega) (fs_n (by omega) rfl)))) s2069_ (by first | exact fs_rg rfl | exact fun r j hj => (fs_n (by omega) (fs_n (by omega) rfl)))) s2725_ (by first | exact fs_rg rfl | exact fun r j hj => (fs_n (by omega) (fs_n (by omega) rfl)))) s2738_ (by first | exact fs_rg rfl | exact fun r j hj => (fs_n (by omega) (fs_n (by omega) rfl)))) s2749_ (by first | exact fs_rg rfl | exact fun r j hj => (fs_n (by omega) (fs_n (by omega) rfl)))) s2759_ (by first | exact fs_rg rfl | exact fun r j hj => (fs_n (by omega) (fs_n (by omega) rfl)))), hps.2⟩)) (fun _ _ h => False.elim h) ?_
    have b2764_ : 0 ≤ F2757_ 344 9 ∧ F2757_ 344 9 ≤ 5 := gi_g g2758_ rfl
    rintro A1_ ⟨F2767_, hA_, g2768_, s2769_, c2765_, c2766_⟩
    subst hA_
    have g2770_ : fs [(344, 344, 5, 5), (344, 344, 9, 10), (344, 344, 33, 33), (344, 344, 36, 36), (344, 344, 64, 64), (358, 358, 0, 100000), (360, 366, 0, 100000)] F F2767_ := fs_tr g2760_ s2769_ rfl
    have rk2771_ : rk K F2767_ := rk_fs rk2761_ s2769_ (fs_rg rfl) rfl
    refine ga_aload_n (v := .ref 344) hm_184 rfl rfl rfl ?_
    refine fl_bipush hm_184 rfl rfl ?_
    have b2772_ : 0 ≤ F2767_ 344 5 ∧ F2767_ 344 5 ≤ 600 := gi_g g2768_ rfl
    refine gVv (nY := 2) (F := 2) (L := 41) (As := [.int (Int32.ofInt 41)]) (b := 344) (rest := []) hm_184 rfl hm_51 rfl rfl (fl_ob sc_344) rfl rfl rfl rfl rfl (by omega) (by omega) (mc_51s hG F2767_ X g2768_ (K) (41) (1) hgK rk2771_ hkt (⟨by omega, by omega⟩) (by omega) (by omega)) (fun _ _ h => False.elim h) ?_
    have b2774_ : 0 ≤ F2767_ 344 9 ∧ F2767_ 344 9 ≤ 5 := gi_g g2768_ rfl
    rintro A1_ ⟨F2777_, hA_, g2778_, s2779_, c2775_, c2776_⟩
    subst hA_
    have g2780_ : fs [(344, 344, 5, 5), (344, 344, 9, 10), (344, 344, 33, 33), (344, 344, 36, 36), (344, 344, 64, 64), (358, 358, 0, 100000), (360, 366, 0, 100000)] F F2777_ := fs_tr g2770_ s2779_ rfl
    have rk2781_ : rk K F2777_ := rk_fs rk2771_ s2779_ (fs_rg rfl) rfl
    refine ga_aload_n (v := .ref 344) hm_184 rfl rfl rfl ?_
    refine fl_bipush hm_184 rfl rfl ?_
    have b2782_ : 0 ≤ F2777_ 344 5 ∧ F2777_ 344 5 ≤ 600 := gi_g g2778_ rfl
    refine gVv (nY := 2) (F := 2) (L := 41) (As := [.int (Int32.ofInt 40)]) (b := 344) (rest := []) hm_184 rfl hm_51 rfl rfl (fl_ob sc_344) rfl rfl rfl rfl rfl (by omega) (by omega) (mc_51s hG F2777_ X g2778_ (K) (40) (0) hgK rk2781_ hkt (⟨by omega, by omega⟩) (by omega) (by omega)) (fun _ _ h => False.elim h) ?_
    have b2784_ : 0 ≤ F2777_ 344 9 ∧ F2777_ 344 9 ≤ 5 := gi_g g2778_ rfl
    rintro A1_ ⟨F2787_, hA_, g2788_, s2789_, c2785_, c2786_⟩
    subst hA_
    have g2790_ : fs [(344, 344, 5, 5), (344, 344, 9, 10), (344, 344, 33, 33), (344, 344, 36, 36), (344, 344, 64, 64), (358, 358, 0, 100000), (360, 366, 0, 100000)] F F2787_ := fs_tr g2780_ s2789_ rfl
    have rk2791_ : rk K F2787_ := rk_fs rk2781_ s2789_ (fs_rg rfl) rfl
    refine ga_aload_n (v := .ref 344) hm_184 rfl rfl rfl ?_
    refine fl_bipush hm_184 rfl rfl ?_
    have b2792_ : 0 ≤ F2787_ 344 5 ∧ F2787_ 344 5 ≤ 600 := gi_g g2788_ rfl
    refine gVv (nY := 2) (F := 2) (L := 44) (As := [.int (Int32.ofInt 17)]) (b := 344) (rest := []) hm_184 rfl hm_55 rfl rfl (fl_ob sc_344) rfl rfl rfl rfl rfl (by omega) (by omega) (mc_55s hG F2787_ X g2788_ (K) (17) ([58, 103, 111, 97, 108]) hgK rk2791_ hkt (⟨by omega, by omega⟩) (⟨by omega, by omega⟩) (by decide) (kw_17 rk2791_)) (fun _ _ h => False.elim h) ?_
    have b2794_ : 0 ≤ F2787_ 344 9 ∧ F2787_ 344 9 ≤ 5 := gi_g g2788_ rfl
    rintro A1_ ⟨F2797_, hA_, g2798_, s2799_, c2795_, c2796_⟩
    subst hA_
    have g2800_ : fs [(344, 344, 5, 5), (344, 344, 9, 10), (344, 344, 33, 33), (344, 344, 36, 36), (344, 344, 64, 64), (358, 358, 0, 100000), (360, 366, 0, 100000)] F F2797_ := fs_tr g2790_ s2799_ rfl
    have rk2801_ : rk K F2797_ := rk_fs rk2791_ s2799_ (fs_rg rfl) rfl
    refine ga_aload_n (v := .ref 344) hm_184 rfl rfl rfl ?_
    refine ga_getr (b := 358) hm_184 rfl sc_344 rfl ?_
    refine fl_iconst hm_184 rfl ?_
    refine fl_iconst hm_184 rfl ?_
    refine fl_iast (z := 5) (v := 0) hm_184 rfl sc_358 (by omega) (by omega) (by omega) ?_
    refine ga_aload_n (v := .ref 344) hm_184 rfl rfl rfl ?_
    refine fl_iconst hm_184 rfl ?_
    refine fl_bipush hm_184 rfl rfl ?_
    obtain ⟨F2802_, q2803_⟩ : ∃ Fq_, Fq_ = (fl_u F2797_ 358 (5 : Int).toNat 0) := ⟨_, rfl⟩
    rw [← q2803_]
    have g2804_ : gi F2802_ := by rw [q2803_]; exact gi_u (g2798_) rfl (by omega) (by omega)
    have g2805_ : fs [(344, 344, 5, 5), (344, 344, 9, 10), (344, 344, 33, 33), (344, 344, 36, 36), (344, 344, 64, 64), (358, 358, 0, 100000), (360, 366, 0, 100000)] F F2802_ := by rw [q2803_]; exact fs_u (g2800_) rfl
    have rk2806_ : rk K F2802_ := by rw [q2803_]; exact rk_u (rk2801_) (by first | decide | exact nc_ rfl | omega) (by first | decide | exact nc_ rfl | omega)
    have e2807_ : F2802_ 344 5 = F2797_ 344 5 := by rw [q2803_]; exact fl_u_ne (by first | exact nc_ rfl | decide | omega)
    have b2808_ : 0 ≤ F2797_ 344 5 ∧ F2797_ 344 5 ≤ 600 := gi_g g2798_ rfl
    refine gVv (nY := 4) (F := 6) (L := 142) (As := [.int (Int32.ofInt 5), .int (Int32.ofInt 40)]) (b := 344) (rest := []) hm_184 rfl hm_175 rfl rfl (fl_ob sc_344) rfl rfl rfl rfl rfl (by omega) (by omega) (mc_175s hG F2802_ X g2804_ (K) (5) (40) (2) ([]) ([]) (pl) (ps) hgK rk2806_ hkt (⟨by omega, by omega⟩) ((by rw [q2803_]; exact (trm_u (trm_fs (trm_fs (trm_fs (trm_fs (trm_fs (trm_fs (trm_fs (trm_fs (trm_fs (trm_fs (trm_fs (trm_fs (trm_fs (trm_fs (trm_fs (trm_fs (trm_fs (trm_fs (trm_fs (trm_fs (trm_fs (trm_fs (tr5_0 h33) s8_ (by first | exact fs_rg rfl | exact fun r j hj => (fs_n (by omega) (fs_n (by omega) rfl)))) s18_ (by first | exact fs_rg rfl | exact fun r j hj => (fs_n (by omega) (fs_n (by omega) rfl)))) s28_ (by first | exact fs_rg rfl | exact fun r j hj => (fs_n (by omega) (fs_n (by omega) rfl)))) s38_ (by first | exact fs_rg rfl | exact fun r j hj => (fs_n (by omega) (fs_n (by omega) rfl)))) s50_ (by first | exact fs_rg rfl | exact fun r j hj => (fs_n (by omega) rfl))) s59_ (by first | exact fs_rg rfl | exact fun r j hj => (fs_n (by omega) rfl))) s69_ (by first | exact fs_rg rfl | exact fun r j hj => (fs_n (by omega) (fs_n (by omega) rfl)))) s79_ (by first | exact fs_rg rfl | exact fun r j hj => (fs_n (by omega) (fs_n (by omega) rfl)))) s89_ (by first | exact fs_rg rfl | exact fun r j hj => (fs_n (by omega) (fs_n (by omega) rfl)))) s101_ (by first | exact fs_rg rfl | exact fun r j hj => (fs_n (by omega) rfl))) s2039_ (by first | exact fs_rg rfl | exact fun r j hj => (fs_n (by omega) rfl))) s2049_ (by first | exact fs_rg rfl | exact fun r j hj => (fs_n (by omega) (fs_n (by omega) rfl)))) s2059_ (by first | exact fs_rg rfl | exact fun r j hj => (fs_n (by omega) (fs_n (by omega) rfl)))) s2069_ (by first | exact fs_rg rfl | exact fun r j hj => (fs_n (by omega) (fs_n (by omega) rfl)))) s2725_ (by first | exact fs_rg rfl | exact fun r j hj => (fs_n (by omega) (fs_n (by omega) rfl)))) s2738_ (by first | exact fs_rg rfl | exact fun r j hj => (fs_n (by omega) (fs_n (by omega) rfl)))) s2749_ (by first | exact fs_rg rfl | exact fun r j hj => (fs_n (by omega) (fs_n (by omega) rfl)))) s2759_ (by first | exact fs_rg rfl | exact fun r j hj => (fs_n (by omega) (fs_n (by omega) rfl)))) s2769_ (by first | exact fs_rg rfl | exact fun r j hj => (fs_n (by omega) (fs_n (by omega) (fs_n (by omega) (fs_n (by omega) rfl)))))) s2779_ (by first | exact fs_rg rfl | exact fun r j hj => (fs_n (by omega) (fs_n (by omega) rfl)))) s2789_ (by first | exact fs_rg rfl | exact fun r j hj => (fs_n (by omega) (fs_n (by omega) rfl)))) s2799_ (by first | exact fs_rg rfl | exact fun r j hj => (fs_n (by omega) (fs_n (by omega) rfl)))) (by first | decide | exact nc_ rfl | omega)))) (rfl) (⟨by omega, by omega⟩) ((by rw [q2803_]; exact (rpn_u (rpn_fs (rpn_fs (rpn_fs (rpn_fs (rpn_fs (rpn_fs (rpn_fs (rpn_fs (rpn_fs (rpn_fs (rpn_fs (rpn_fs (rpn_fs (rpn_fs (rpn_fs (rpn_fs (rpn_fs (rpn_fs (rpn_fs (rpn_fs (rpn_fs (rpn_fs hpl s8_ (fun _ => (by first | exact fs_c rfl | exact (fs_n (by omega) (fs_n (by omega) rfl)))) (by first | exact fs_c rfl | exact (fs_n (by omega) (fs_n (by omega) rfl)))) s18_ (fun _ => (by first | exact fs_c rfl | exact (fs_n (by omega) (fs_n (by omega) rfl)))) (by first | exact fs_c rfl | exact (fs_n (by omega) (fs_n (by omega) rfl)))) s28_ (fun _ => (by first | exact fs_c rfl | exact (fs_n (by omega) (fs_n (by omega) rfl)))) (by first | exact fs_c rfl | exact (fs_n (by omega) (fs_n (by omega) rfl)))) s38_ (fun _ => (by first | exact fs_c rfl | exact (fs_n (by omega) (fs_n (by omega) rfl)))) (by first | exact fs_c rfl | exact (fs_n (by omega) (fs_n (by omega) rfl)))) s50_ (fun _ => (by first | exact fs_c rfl | exact (fs_n (by omega) rfl))) (by first | exact fs_c rfl | exact (fs_n (by omega) rfl))) s59_ (fun _ => (by first | exact fs_c rfl | exact (fs_n (by omega) rfl))) (by first | exact fs_c rfl | exact (fs_n (by omega) rfl))) s69_ (fun _ => (by first | exact fs_c rfl | exact (fs_n (by omega) (fs_n (by omega) rfl)))) (by first | exact fs_c rfl | exact (fs_n (by omega) (fs_n (by omega) rfl)))) s79_ (fun _ => (by first | exact fs_c rfl | exact (fs_n (by omega) (fs_n (by omega) rfl)))) (by first | exact fs_c rfl | exact (fs_n (by omega) (fs_n (by omega) rfl)))) s89_ (fun _ => (by first | exact fs_c rfl | exact (fs_n (by omega) (fs_n (by omega) rfl)))) (by first | exact fs_c rfl | exact (fs_n (by omega) (fs_n (by omega) rfl)))) s101_ (fun _ => (by first | exact fs_c rfl | exact (fs_n (by omega) rfl))) (by first | exact fs_c rfl | exact (fs_n (by omega) rfl))) s2039_ (fun _ => (by first | exact fs_c rfl | exact (fs_n (by omega) rfl))) (by first | exact fs_c rfl | exact (fs_n (by omega) rfl))) s2049_ (fun _ => (by first | exact fs_c rfl | exact (fs_n (by omega) (fs_n (by omega) rfl)))) (by first | exact fs_c rfl | exact (fs_n (by omega) (fs_n (by omega) rfl)))) s2059_ (fun _ => (by first | exact fs_c rfl | exact (fs_n (by omega) (fs_n (by omega) rfl)))) (by first | exact fs_c rfl | exact (fs_n (by omega) (fs_n (by omega) rfl)))) s2069_ (fun _ => (by first | exact fs_c rfl | exact (fs_n (by omega) (fs_n (by omega) rfl)))) (by first | exact fs_c rfl | exact (fs_n (by omega) (fs_n (by omega) rfl)))) s2725_ (fun _ => (by first | exact fs_c rfl | exact (fs_n (by omega) (fs_n (by omega) rfl)))) (by first | exact fs_c rfl | exact (fs_n (by omega) (fs_n (by omega) rfl)))) s2738_ (fun _ => (by first | exact fs_c rfl | exact (fs_n (by omega) (fs_n (by omega) rfl)))) (by first | exact fs_c rfl | exact (fs_n (by omega) (fs_n (by omega) rfl)))) s2749_ (fun _ => (by first | exact fs_c rfl | exact (fs_n (by omega) (fs_n (by omega) rfl)))) (by first | exact fs_c rfl | exact (fs_n (by omega) (fs_n (by omega) rfl)))) s2759_ (fun _ => (by first | exact fs_c rfl | exact (fs_n (by omega) (fs_n (by omega) rfl)))) (by first | exact fs_c rfl | exact (fs_n (by omega) (fs_n (by omega) rfl)))) s2769_ (fun _ => (by first | exact fs_c rfl | exact (fs_n (by omega) (fs_n (by omega) (fs_n (by omega) (fs_n (by omega) rfl)))))) (by first | exact fs_c rfl | exact (fs_n (by omega) (fs_n (by omega) (fs_n (by omega) (fs_n (by omega) rfl)))))) s2779_ (fun _ => (by first | exact fs_c rfl | exact (fs_n (by omega) (fs_n (by omega) rfl)))) (by first | exact fs_c rfl | exact (fs_n (by omega) (fs_n (by omega) rfl)))) s2789_ (fun _ => (by first | exact fs_c rfl | exact (fs_n (by omega) (fs_n (by omega) rfl)))) (by first | exact fs_c rfl | exact (fs_n (by omega) (fs_n (by omega) rfl)))) s2799_ (fun _ => (by first | exact fs_c rfl | exact (fs_n (by omega) (fs_n (by omega) rfl)))) (by first | exact fs_c rfl | exact (fs_n (by omega) (fs_n (by omega) rfl)))) (by first | decide | exact nc_ rfl | omega) (by first | decide | exact nc_ rfl | omega)))) (⟨(by rw [q2803_]; exact (rprd_u (rprd_fs (rprd_fs (rprd_fs (rprd_fs (rprd_fs (rprd_fs (rprd_fs (rprd_fs (rprd_fs (rprd_fs (rprd_fs (rprd_fs (rprd_fs (rprd_fs (rprd_fs (rprd_fs (rprd_fs (rprd_fs (rprd_fs (rprd_fs (rprd_fs (rprd_fs hps.1 s8_ (by first | exact fs_rg rfl | exact fun r j hj => (fs_n (by omega) (fs_n (by omega) rfl)))) s18_ (by first | exact fs_rg rfl | exact fun r j hj => (fs_n (by omega) (fs_n (by omega) rfl)))) s28_ (by first | exact fs_rg rfl | exact fun r j hj => (fs_n (by omega) (fs_n (by omega) rfl)))) s38_ (by first | exact fs_rg rfl | exact fun r j hj => (fs_n (by omega) (fs_n (by omega) rfl)))) s50_ (by first | exact fs_rg rfl | exact fun r j hj => (fs_n (by omega) rfl))) s59_ (by first | exact fs_rg rfl | exact fun r j hj => (fs_n (by omega) rfl))) s69_ (by first | exact fs_rg rfl | exact fun r j hj => (fs_n (by omega) (fs_n (by omega) rfl)))) s79_ (by first | exact fs_rg rfl | exact fun r j hj => (fs_n (by omega) (fs_n (by omega) rfl)))) s89_ (by first | exact fs_rg rfl | exact fun r j hj => (fs_n (by omega) (fs_n (by omega) rfl)))) s101_ (by first | exact fs_rg rfl | exact fun r j hj => (fs_n (by omega) rfl))) s2039_ (by first | exact fs_rg rfl | exact fun r j hj => (fs_n (by omega) rfl))) s2049_ (by first | exact fs_rg rfl | exact fun r j hj => (fs_n (by omega) (fs_n (by omega) rfl)))) s2059_ (by first | exact fs_rg rfl | exact fun r j hj => (fs_n (by omega) (fs_n (by omega) rfl)))) s2069_ (by first | exact fs_rg rfl | exact fun r j hj => (fs_n (by omega) (fs_n (by omega) rfl)))) s2725_ (by first | exact fs_rg rfl | exact fun r j hj => (fs_n (by omega) (fs_n (by omega) rfl)))) s2738_ (by first | exact fs_rg rfl | exact fun r j hj => (fs_n (by omega) (fs_n (by omega) rfl)))) s2749_ (by first | exact fs_rg rfl | exact fun r j hj => (fs_n (by omega) (fs_n (by omega) rfl)))) s2759_ (by first | exact fs_rg rfl | exact fun r j hj => (fs_n (by omega) (fs_n (by omega) rfl)))) s2769_ (by first | exact fs_rg rfl | exact fun r j hj => (fs_n (by omega) (fs_n (by omega) (fs_n (by omega) (fs_n (by omega) rfl)))))) s2779_ (by first | exact fs_rg rfl | exact fun r j hj => (fs_n (by omega) (fs_n (by omega) rfl)))) s2789_ (by first | exact fs_rg rfl | exact fun r j hj => (fs_n (by omega) (fs_n (by omega) rfl)))) s2799_ (by first | exact fs_rg rfl | exact fun r j hj => (fs_n (by omega) (fs_n (by omega) rfl)))) (by first | decide | exact nc_ rfl | omega))), hps.2⟩) (⟨by omega, by omega⟩) (Or.inr (by omega)) (by rw [q2803_]; exact fl_u_eq)) (fun _ _ h => False.elim h) ?_
    have e2810_ : F2802_ 344 9 = F2797_ 344 9 := by rw [q2803_]; exact fl_u_ne (by first | exact nc_ rfl | decide | omega)
    have b2811_ : 0 ≤ F2797_ 344 9 ∧ F2797_ 344 9 ≤ 5 := gi_g g2798_ rfl
    rintro A1_ ⟨F2814_, hA_, g2815_, s2816_, c2812_, c2813_⟩
    subst hA_
    have g2817_ : fs [(344, 344, 5, 5), (344, 344, 9, 10), (344, 344, 33, 33), (344, 344, 36, 36), (344, 344, 64, 64), (358, 358, 0, 100000), (360, 366, 0, 100000)] F F2814_ := fs_tr g2805_ s2816_ rfl
    have rk2818_ : rk K F2814_ := rk_fs rk2806_ s2816_ (fs_rg rfl) rfl
    try simp only [e2810_] at c2812_
    refine ga_aload_n (v := .ref 344) hm_184 rfl rfl rfl ?_
    refine fl_bipush hm_184 rfl rfl ?_
    have b2819_ : 0 ≤ F2814_ 344 5 ∧ F2814_ 344 5 ≤ 600 := gi_g g2815_ rfl
    refine gVv (nY := 2) (F := 2) (L := 41) (As := [.int (Int32.ofInt 41)]) (b := 344) (rest := []) hm_184 rfl hm_51 rfl rfl (fl_ob sc_344) rfl rfl rfl rfl rfl (by omega) (by omega) (mc_51s hG F2814_ X g2815_ (K) (41) (1) hgK rk2818_ hkt (⟨by omega, by omega⟩) (by omega) (by omega)) (fun _ _ h => False.elim h) ?_
    have b2821_ : 0 ≤ F2814_ 344 9 ∧ F2814_ 344 9 ≤ 5 := gi_g g2815_ rfl
    rintro A1_ ⟨F2824_, hA_, g2825_, s2826_, c2822_, c2823_⟩
    subst hA_
    have g2827_ : fs [(344, 344, 5, 5), (344, 344, 9, 10), (344, 344, 33, 33), (344, 344, 36, 36), (344, 344, 64, 64), (358, 358, 0, 100000), (360, 366, 0, 100000)] F F2824_ := fs_tr g2817_ s2826_ rfl
    have rk2828_ : rk K F2824_ := rk_fs rk2818_ s2826_ (fs_rg rfl) rfl
    refine ga_aload_n (v := .ref 344) hm_184 rfl rfl rfl ?_
    refine fl_bipush hm_184 rfl rfl ?_
    have b2829_ : 0 ≤ F2824_ 344 5 ∧ F2824_ 344 5 ≤ 600 := gi_g g2825_ rfl
    refine gVv (nY := 2) (F := 2) (L := 41) (As := [.int (Int32.ofInt 41)]) (b := 344) (rest := []) hm_184 rfl hm_51 rfl rfl (fl_ob sc_344) rfl rfl rfl rfl rfl (by omega) (by omega) (mc_51s hG F2824_ X g2825_ (K) (41) (1) hgK rk2828_ hkt (⟨by omega, by omega⟩) (by omega) (by omega)) (fun _ _ h => False.elim h) ?_
    have b2831_ : 0 ≤ F2824_ 344 9 ∧ F2824_ 344 9 ≤ 5 := gi_g g2825_ rfl
    rintro A1_ ⟨F2834_, hA_, g2835_, s2836_, c2832_, c2833_⟩
    subst hA_
    have g2837_ : fs [(344, 344, 5, 5), (344, 344, 9, 10), (344, 344, 33, 33), (344, 344, 36, 36), (344, 344, 64, 64), (358, 358, 0, 100000), (360, 366, 0, 100000)] F F2834_ := fs_tr g2827_ s2836_ rfl
    have rk2838_ : rk K F2834_ := rk_fs rk2828_ s2836_ (fs_rg rfl) rfl
    refine ga_aload_n (v := .ref 344) hm_184 rfl rfl rfl ?_
    refine gIi (nY := 1) (F := 0) (L := 0) (As := []) (b := 344) (rest := []) hm_184 rfl hm_59 rfl rfl (fl_ob sc_344) rfl rfl rfl rfl rfl (by omega) (by omega) ?_
    intro f2839_ l2840_ h2841_ h2842_
    show fl_R xi_ms 59 f2839_ l2840_ 0 [(0, .ref 344)] [] _ _
    refine ga_aload_n (v := .ref 344) hm_59 rfl rfl rfl ?_
    have b2843_ : 0 ≤ F2834_ 344 9 ∧ F2834_ 344 9 ≤ 5 := gi_g g2835_ rfl
    refine ga_geti (z := F2834_ 344 9) hm_59 rfl sc_344 rfl (rfl) ?_
    refine fl_if_le (a := F2834_ 344 9) hm_59 rfl ⟨by omega, by omega⟩ (fun h2844_ => ?_) (fun h2845_ => ?_)
    ·
      refine fl_iconst hm_59 rfl ?_
      refine gr_i hm_59 rfl rfl (ga_nb (by omega)) ?_
      clear h2841_ h2842_ f2839_ l2840_
      refine fl_if_ne hm_184 rfl ⟨by omega, by omega⟩ (fun h => absurd h (by omega)) (fun _ => ?_)
      refine ga_aload_n (v := .ref 344) hm_184 rfl rfl rfl ?_
      have b2846_ : 0 ≤ F2834_ 344 5 ∧ F2834_ 344 5 ≤ 600 := gi_g g2835_ rfl
      refine ga_geti (z := F2834_ 344 5) hm_184 rfl sc_344 rfl (rfl) ?_
      refine ga_aload_n (v := .ref 344) hm_184 rfl rfl rfl ?_
      have e2847_ : F2834_ 344 4 = K 1 6 - 1 := rk2838_.2.1
      refine ga_geti (z := K 1 6 - 1) hm_184 rfl sc_344 rfl (e2847_) ?_
      refine fl_icmp_ge (a := F2834_ 344 5) (b := K 1 6 - 1) hm_184 rfl ⟨by omega, by omega⟩ ⟨by omega, by omega⟩ (fun h2848_ => ?_) (fun h2849_ => ?_)
      ·
        refine gr_v hm_184 rfl rfl ?_
        exact ⟨F2834_, rfl, g2835_, g2837_, (⟨by omega, by omega⟩)⟩
      refine ga_aload_n (v := .ref 344) hm_184 rfl rfl rfl ?_
      refine fl_iconst hm_184 rfl ?_
      refine gVv (nY := 2) (F := 0) (L := 0) (As := [.int (Int32.ofInt 1)]) (b := 344) (rest := []) hm_184 rfl hm_54 rfl rfl (fl_ob sc_344) rfl rfl rfl rfl rfl (by omega) (by omega) (mc_54 hG F2834_ X g2835_ (K) (1) hgK rk2838_ hkt (⟨by omega, by omega⟩) (⟨by omega, by omega⟩)) (fun _ _ h => False.elim h) ?_
      have b2851_ : 0 ≤ F2834_ 344 10 ∧ F2834_ 344 10 ≤ 600 := gi_g g2835_ rfl
      rintro A1_ ⟨F2855_, hA_, g2856_, s2857_, c2852_, c2853_, c2854_⟩
      subst hA_
      have g2858_ : fs [(344, 344, 5, 5), (344, 344, 9, 10), (344, 344, 33, 33), (344, 344, 36, 36), (344, 344, 64, 64), (358, 358, 0, 100000), (360, 366, 0, 100000)] F F2855_ := fs_tr g2837_ s2857_ rfl
      have rk2859_ : rk K F2855_ := rk_fs rk2838_ s2857_ (fs_rg rfl) rfl
      have c2853_s := c2853_.1 (by omega)
      clear c2853_
      refine gr_v hm_184 rfl rfl ?_
      have e2860_ : F2855_ 344 5 = F2834_ 344 5 := (s2857_ 344 5 rfl).trans (rfl)
      exact ⟨F2855_, rfl, g2856_, g2858_, (⟨by omega, by omega⟩)⟩
    refine fl_iconst hm_59 rfl ?_
    refine fl_goto hm_59 rfl ?_
    refine gr_i hm_59 rfl rfl (ga_nb (by omega)) ?_
    clear h2841_ h2842_ f2839_ l2840_
    refine fl_if_ne hm_184 rfl ⟨by omega, by omega⟩ (fun _ => ?_) (fun h => absurd (by omega) h)
    refine gr_v hm_184 rfl rfl ?_
    have b2861_ : 0 ≤ F2834_ 344 5 ∧ F2834_ 344 5 ≤ 600 := gi_g g2835_ rfl
    exact ⟨F2834_, rfl, g2835_, g2837_, (⟨by omega, by omega⟩)⟩
  refine fl_iconst hm_59 rfl ?_
  refine fl_goto hm_59 rfl ?_
  refine gr_i hm_59 rfl rfl (ga_nb (by omega)) ?_
  clear h2730_ h2731_ f2728_ l2729_
  refine fl_if_ne hm_184 rfl ⟨by omega, by omega⟩ (fun _ => ?_) (fun h => absurd (by omega) h)
  refine ga_aload_n (v := .ref 344) hm_184 rfl rfl rfl ?_
  refine fl_bipush hm_184 rfl rfl ?_
  have b2862_ : 0 ≤ F2723_ 344 5 ∧ F2723_ 344 5 ≤ 600 := gi_g g2724_ rfl
  refine gVv (nY := 2) (F := 2) (L := 41) (As := [.int (Int32.ofInt 40)]) (b := 344) (rest := []) hm_184 rfl hm_51 rfl rfl (fl_ob sc_344) rfl rfl rfl rfl rfl (by omega) (by omega) (mc_51s hG F2723_ X g2724_ (K) (40) (0) hgK rk2727_ hkt (⟨by omega, by omega⟩) (by omega) (by omega)) (fun _ _ h => False.elim h) ?_
  rintro A1_ ⟨F2866_, hA_, g2867_, s2868_, c2864_, c2865_⟩
  subst hA_
  have g2869_ : fs [(344, 344, 5, 5), (344, 344, 9, 10), (344, 344, 33, 33), (344, 344, 36, 36), (344, 344, 64, 64), (358, 358, 0, 100000), (360, 366, 0, 100000)] F F2866_ := fs_tr g2726_ s2868_ rfl
  have rk2870_ : rk K F2866_ := rk_fs rk2727_ s2868_ (fs_rg rfl) rfl
  refine ga_aload_n (v := .ref 344) hm_184 rfl rfl rfl ?_
  refine fl_bipush hm_184 rfl rfl ?_
  have b2871_ : 0 ≤ F2866_ 344 5 ∧ F2866_ 344 5 ≤ 600 := gi_g g2867_ rfl
  refine gVv (nY := 2) (F := 2) (L := 44) (As := [.int (Int32.ofInt 16)]) (b := 344) (rest := []) hm_184 rfl hm_55 rfl rfl (fl_ob sc_344) rfl rfl rfl rfl rfl (by omega) (by omega) (mc_55s hG F2866_ X g2867_ (K) (16) ([58, 105, 110, 105, 116]) hgK rk2870_ hkt (⟨by omega, by omega⟩) (⟨by omega, by omega⟩) (by decide) (kw_16 rk2870_)) (fun _ _ h => False.elim h) ?_
  have b2873_ : 0 ≤ F2866_ 344 9 ∧ F2866_ 344 9 ≤ 5 := gi_g g2867_ rfl
  rintro A1_ ⟨F2876_, hA_, g2877_, s2878_, c2874_, c2875_⟩
  subst hA_
  have g2879_ : fs [(344, 344, 5, 5), (344, 344, 9, 10), (344, 344, 33, 33), (344, 344, 36, 36), (344, 344, 64, 64), (358, 358, 0, 100000), (360, 366, 0, 100000)] F F2876_ := fs_tr g2869_ s2878_ rfl
  have rk2880_ : rk K F2876_ := rk_fs rk2870_ s2878_ (fs_rg rfl) rfl
  refine ga_aload_n (v := .ref 344) hm_184 rfl rfl rfl ?_
  have b2881_ : 0 ≤ F2876_ 344 5 ∧ F2876_ 344 5 ≤ 600 := gi_g g2877_ rfl
  refine gVv (nY := 2) (F := 5) (L := 117) (As := []) (b := 344) (rest := []) hm_184 rfl hm_178 rfl rfl (fl_ob sc_344) rfl rfl rfl rfl rfl (by omega) (by omega) (mc_178 hG F2876_ X g2877_ (K) ([]) ([]) (pl) (ps) hgK rk2880_ hkt (⟨by omega, by omega⟩) ((trm_fs (trm_fs (trm_fs (trm_fs (trm_fs (trm_fs (trm_fs (trm_fs (trm_fs (trm_fs (trm_fs (trm_fs (trm_fs (trm_fs (trm_fs (trm_fs (trm_fs (tr5_0 h33) s8_ (by first | exact fs_rg rfl | exact fun r j hj => (fs_n (by omega) (fs_n (by omega) rfl)))) s18_ (by first | exact fs_rg rfl | exact fun r j hj => (fs_n (by omega) (fs_n (by omega) rfl)))) s28_ (by first | exact fs_rg rfl | exact fun r j hj => (fs_n (by omega) (fs_n (by omega) rfl)))) s38_ (by first | exact fs_rg rfl | exact fun r j hj => (fs_n (by omega) (fs_n (by omega) rfl)))) s50_ (by first | exact fs_rg rfl | exact fun r j hj => (fs_n (by omega) rfl))) s59_ (by first | exact fs_rg rfl | exact fun r j hj => (fs_n (by omega) rfl))) s69_ (by first | exact fs_rg rfl | exact fun r j hj => (fs_n (by omega) (fs_n (by omega) rfl)))) s79_ (by first | exact fs_rg rfl | exact fun r j hj => (fs_n (by omega) (fs_n (by omega) rfl)))) s89_ (by first | exact fs_rg rfl | exact fun r j hj => (fs_n (by omega) (fs_n (by omega) rfl)))) s101_ (by first | exact fs_rg rfl | exact fun r j hj => (fs_n (by omega) rfl))) s2039_ (by first | exact fs_rg rfl | exact fun r j hj => (fs_n (by omega) rfl))) s2049_ (by first | exact fs_rg rfl | exact fun r j hj => (fs_n (by omega) (fs_n (by omega) rfl)))) s2059_ (by first | exact fs_rg rfl | exact fun r j hj => (fs_n (by omega) (fs_n (by omega) rfl)))) s2069_ (by first | exact fs_rg rfl | exact fun r j hj => (fs_n (by omega) (fs_n (by omega) rfl)))) s2725_ (by first | exact fs_rg rfl | exact fun r j hj => (fs_n (by omega) (fs_n (by omega) rfl)))) s2868_ (by first | exact fs_rg rfl | exact fun r j hj => (fs_n (by omega) (fs_n (by omega) rfl)))) s2878_ (by first | exact fs_rg rfl | exact fun r j hj => (fs_n (by omega) (fs_n (by omega) rfl))))) (rfl) ((rpn_fs (rpn_fs (rpn_fs (rpn_fs (rpn_fs (rpn_fs (rpn_fs (rpn_fs (rpn_fs (rpn_fs (rpn_fs (rpn_fs (rpn_fs (rpn_fs (rpn_fs (rpn_fs (rpn_fs hpl s8_ (fun _ => (by first | exact fs_c rfl | exact (fs_n (by omega) (fs_n (by omega) rfl)))) (by first | exact fs_c rfl | exact (fs_n (by omega) (fs_n (by omega) rfl)))) s18_ (fun _ => (by first | exact fs_c rfl | exact (fs_n (by omega) (fs_n (by omega) rfl)))) (by first | exact fs_c rfl | exact (fs_n (by omega) (fs_n (by omega) rfl)))) s28_ (fun _ => (by first | exact fs_c rfl | exact (fs_n (by omega) (fs_n (by omega) rfl)))) (by first | exact fs_c rfl | exact (fs_n (by omega) (fs_n (by omega) rfl)))) s38_ (fun _ => (by first | exact fs_c rfl | exact (fs_n (by omega) (fs_n (by omega) rfl)))) (by first | exact fs_c rfl | exact (fs_n (by omega) (fs_n (by omega) rfl)))) s50_ (fun _ => (by first | exact fs_c rfl | exact (fs_n (by omega) rfl))) (by first | exact fs_c rfl | exact (fs_n (by omega) rfl))) s59_ (fun _ => (by first | exact fs_c rfl | exact (fs_n (by omega) rfl))) (by first | exact fs_c rfl | exact (fs_n (by omega) rfl))) s69_ (fun _ => (by first | exact fs_c rfl | exact (fs_n (by omega) (fs_n (by omega) rfl)))) (by first | exact fs_c rfl | exact (fs_n (by omega) (fs_n (by omega) rfl)))) s79_ (fun _ => (by first | exact fs_c rfl | exact (fs_n (by omega) (fs_n (by omega) rfl)))) (by first | exact fs_c rfl | exact (fs_n (by omega) (fs_n (by omega) rfl)))) s89_ (fun _ => (by first | exact fs_c rfl | exact (fs_n (by omega) (fs_n (by omega) rfl)))) (by first | exact fs_c rfl | exact (fs_n (by omega) (fs_n (by omega) rfl)))) s101_ (fun _ => (by first | exact fs_c rfl | exact (fs_n (by omega) rfl))) (by first | exact fs_c rfl | exact (fs_n (by omega) rfl))) s2039_ (fun _ => (by first | exact fs_c rfl | exact (fs_n (by omega) rfl))) (by first | exact fs_c rfl | exact (fs_n (by omega) rfl))) s2049_ (fun _ => (by first | exact fs_c rfl | exact (fs_n (by omega) (fs_n (by omega) rfl)))) (by first | exact fs_c rfl | exact (fs_n (by omega) (fs_n (by omega) rfl)))) s2059_ (fun _ => (by first | exact fs_c rfl | exact (fs_n (by omega) (fs_n (by omega) rfl)))) (by first | exact fs_c rfl | exact (fs_n (by omega) (fs_n (by omega) rfl)))) s2069_ (fun _ => (by first | exact fs_c rfl | exact (fs_n (by omega) (fs_n (by omega) rfl)))) (by first | exact fs_c rfl | exact (fs_n (by omega) (fs_n (by omega) rfl)))) s2725_ (fun _ => (by first | exact fs_c rfl | exact (fs_n (by omega) (fs_n (by omega) rfl)))) (by first | exact fs_c rfl | exact (fs_n (by omega) (fs_n (by omega) rfl)))) s2868_ (fun _ => (by first | exact fs_c rfl | exact (fs_n (by omega) (fs_n (by omega) rfl)))) (by first | exact fs_c rfl | exact (fs_n (by omega) (fs_n (by omega) rfl)))) s2878_ (fun _ => (by first | exact fs_c rfl | exact (fs_n (by omega) (fs_n (by omega) rfl)))) (by first | exact fs_c rfl | exact (fs_n (by omega) (fs_n (by omega) rfl))))) (⟨(rprd_fs (rprd_fs (rprd_fs (rprd_fs (rprd_fs (rprd_fs (rprd_fs (rprd_fs (rprd_fs (rprd_fs (rprd_fs (rprd_fs (rprd_fs (rprd_fs (rprd_fs (rprd_fs (rprd_fs hps.1 s8_ (by first | exact fs_rg rfl | exact fun r j hj => (fs_n (by omega) (fs_n (by omega) rfl)))) s18_ (by first | exact fs_rg rfl | exact fun r j hj => (fs_n (by omega) (fs_n (by omega) rfl)))) s28_ (by first | exact fs_rg rfl | exact fun r j hj => (fs_n (by omega) (fs_n (by omega) rfl)))) s38_ (by first | exact fs_rg rfl | exact fun r j hj => (fs_n (by omega) (fs_n (by omega) rfl)))) s50_ (by first | exact fs_rg rfl | exact fun r j hj => (fs_n (by omega) rfl))) s59_ (by first | exact fs_rg rfl | exact fun r j hj => (fs_n (by omega) rfl))) s69_ (by first | exact fs_rg rfl | exact fun r j hj => (fs_n (by omega) (fs_n (by omega) rfl)))) s79_ (by first | exact fs_rg rfl | exact fun r j hj => (fs_n (by omega) (fs_n (by omega) rfl)))) s89_ (by first | exact fs_rg rfl | exact fun r j hj => (fs_n (by omega) (fs_n (by omega) rfl)))) s101_ (by first | exact fs_rg rfl | exact fun r j hj => (fs_n (by omega) rfl))) s2039_ (by first | exact fs_rg rfl | exact fun r j hj => (fs_n (by omega) rfl))) s2049_ (by first | exact fs_rg rfl | exact fun r j hj => (fs_n (by omega) (fs_n (by omega) rfl)))) s2059_ (by first | exact fs_rg rfl | exact fun r j hj => (fs_n (by omega) (fs_n (by omega) rfl)))) s2069_ (by first | exact fs_rg rfl | exact fun r j hj => (fs_n (by omega) (fs_n (by omega) rfl)))) s2725_ (by first | exact fs_rg rfl | exact fun r j hj => (fs_n (by omega) (fs_n (by omega) rfl)))) s2868_ (by first | exact fs_rg rfl | exact fun r j hj => (fs_n (by omega) (fs_n (by omega) rfl)))) s2878_ (by first | exact fs_rg rfl | exact fun r j hj => (fs_n (by omega) (fs_n (by omega) rfl)))), hps.2⟩)) (fun _ _ h => False.elim h) ?_
  have b2883_ : 0 ≤ F2876_ 344 9 ∧ F2876_ 344 9 ≤ 5 := gi_g g2877_ rfl
  rintro A1_ ⟨F2886_, hA_, g2887_, s2888_, c2884_, c2885_⟩
  subst hA_
  have g2889_ : fs [(344, 344, 5, 5), (344, 344, 9, 10), (344, 344, 33, 33), (344, 344, 36, 36), (344, 344, 64, 64), (358, 358, 0, 100000), (360, 366, 0, 100000)] F F2886_ := fs_tr g2879_ s2888_ rfl
  have rk2890_ : rk K F2886_ := rk_fs rk2880_ s2888_ (fs_rg rfl) rfl
  refine ga_aload_n (v := .ref 344) hm_184 rfl rfl rfl ?_
  refine fl_bipush hm_184 rfl rfl ?_
  have b2891_ : 0 ≤ F2886_ 344 5 ∧ F2886_ 344 5 ≤ 600 := gi_g g2887_ rfl
  refine gVv (nY := 2) (F := 2) (L := 41) (As := [.int (Int32.ofInt 41)]) (b := 344) (rest := []) hm_184 rfl hm_51 rfl rfl (fl_ob sc_344) rfl rfl rfl rfl rfl (by omega) (by omega) (mc_51s hG F2886_ X g2887_ (K) (41) (1) hgK rk2890_ hkt (⟨by omega, by omega⟩) (by omega) (by omega)) (fun _ _ h => False.elim h) ?_
  have b2893_ : 0 ≤ F2886_ 344 9 ∧ F2886_ 344 9 ≤ 5 := gi_g g2887_ rfl
  rintro A1_ ⟨F2896_, hA_, g2897_, s2898_, c2894_, c2895_⟩
  subst hA_
  have g2899_ : fs [(344, 344, 5, 5), (344, 344, 9, 10), (344, 344, 33, 33), (344, 344, 36, 36), (344, 344, 64, 64), (358, 358, 0, 100000), (360, 366, 0, 100000)] F F2896_ := fs_tr g2889_ s2898_ rfl
  have rk2900_ : rk K F2896_ := rk_fs rk2890_ s2898_ (fs_rg rfl) rfl
  refine ga_aload_n (v := .ref 344) hm_184 rfl rfl rfl ?_
  refine fl_bipush hm_184 rfl rfl ?_
  have b2901_ : 0 ≤ F2896_ 344 5 ∧ F2896_ 344 5 ≤ 600 := gi_g g2897_ rfl
  refine gVv (nY := 2) (F := 2) (L := 41) (As := [.int (Int32.ofInt 40)]) (b := 344) (rest := []) hm_184 rfl hm_51 rfl rfl (fl_ob sc_344) rfl rfl rfl rfl rfl (by omega) (by omega) (mc_51s hG F2896_ X g2897_ (K) (40) (0) hgK rk2900_ hkt (⟨by omega, by omega⟩) (by omega) (by omega)) (fun _ _ h => False.elim h) ?_
  have b2903_ : 0 ≤ F2896_ 344 9 ∧ F2896_ 344 9 ≤ 5 := gi_g g2897_ rfl
  rintro A1_ ⟨F2906_, hA_, g2907_, s2908_, c2904_, c2905_⟩
  subst hA_
  have g2909_ : fs [(344, 344, 5, 5), (344, 344, 9, 10), (344, 344, 33, 33), (344, 344, 36, 36), (344, 344, 64, 64), (358, 358, 0, 100000), (360, 366, 0, 100000)] F F2906_ := fs_tr g2899_ s2908_ rfl
  have rk2910_ : rk K F2906_ := rk_fs rk2900_ s2908_ (fs_rg rfl) rfl
  refine ga_aload_n (v := .ref 344) hm_184 rfl rfl rfl ?_
  refine fl_bipush hm_184 rfl rfl ?_
  have b2911_ : 0 ≤ F2906_ 344 5 ∧ F2906_ 344 5 ≤ 600 := gi_g g2907_ rfl
  refine gVv (nY := 2) (F := 2) (L := 44) (As := [.int (Int32.ofInt 17)]) (b := 344) (rest := []) hm_184 rfl hm_55 rfl rfl (fl_ob sc_344) rfl rfl rfl rfl rfl (by omega) (by omega) (mc_55s hG F2906_ X g2907_ (K) (17) ([58, 103, 111, 97, 108]) hgK rk2910_ hkt (⟨by omega, by omega⟩) (⟨by omega, by omega⟩) (by decide) (kw_17 rk2910_)) (fun _ _ h => False.elim h) ?_
  have b2913_ : 0 ≤ F2906_ 344 9 ∧ F2906_ 344 9 ≤ 5 := gi_g g2907_ rfl
  rintro A1_ ⟨F2916_, hA_, g2917_, s2918_, c2914_, c2915_⟩
  subst hA_
  have g2919_ : fs [(344, 344, 5, 5), (344, 344, 9, 10), (344, 344, 33, 33), (344, 344, 36, 36), (344, 344, 64, 64), (358, 358, 0, 100000), (360, 366, 0, 100000)] F F2916_ := fs_tr g2909_ s2918_ rfl
  have rk2920_ : rk K F2916_ := rk_fs rk2910_ s2918_ (fs_rg rfl) rfl
  refine ga_aload_n (v := .ref 344) hm_184 rfl rfl rfl ?_
  refine ga_getr (b := 358) hm_184 rfl sc_344 rfl ?_
  refine fl_iconst hm_184 rfl ?_
  refine fl_iconst hm_184 rfl ?_
  refine fl_iast (z := 5) (v := 0) hm_184 rfl sc_358 (by omega) (by omega) (by omega) ?_
  refine ga_aload_n (v := .ref 344) hm_184 rfl rfl rfl ?_
  refine fl_iconst hm_184 rfl ?_
  refine fl_bipush hm_184 rfl rfl ?_
  obtain ⟨F2921_, q2922_⟩ : ∃ Fq_, Fq_ = (fl_u F2916_ 358 (5 : Int).toNat 0) := ⟨_, rfl⟩
  rw [← q2922_]
  have g2923_ : gi F2921_ := by rw [q2922_]; exact gi_u (g2917_) rfl (by omega) (by omega)
  have g2924_ : fs [(344, 344, 5, 5), (344, 344, 9, 10), (344, 344, 33, 33), (344, 344, 36, 36), (344, 344, 64, 64), (358, 358, 0, 100000), (360, 366, 0, 100000)] F F2921_ := by rw [q2922_]; exact fs_u (g2919_) rfl
  have rk2925_ : rk K F2921_ := by rw [q2922_]; exact rk_u (rk2920_) (by first | decide | exact nc_ rfl | omega) (by first | decide | exact nc_ rfl | omega)
  have e2926_ : F2921_ 344 5 = F2916_ 344 5 := by rw [q2922_]; exact fl_u_ne (by first | exact nc_ rfl | decide | omega)
  have b2927_ : 0 ≤ F2916_ 344 5 ∧ F2916_ 344 5 ≤ 600 := gi_g g2917_ rfl
  refine gVv (nY := 4) (F := 6) (L := 142) (As := [.int (Int32.ofInt 5), .int (Int32.ofInt 40)]) (b := 344) (rest := []) hm_184 rfl hm_175 rfl rfl (fl_ob sc_344) rfl rfl rfl rfl rfl (by omega) (by omega) (mc_175s hG F2921_ X g2923_ (K) (5) (40) (2) ([]) ([]) (pl) (ps) hgK rk2925_ hkt (⟨by omega, by omega⟩) ((by rw [q2922_]; exact (trm_u (trm_fs (trm_fs (trm_fs (trm_fs (trm_fs (trm_fs (trm_fs (trm_fs (trm_fs (trm_fs (trm_fs (trm_fs (trm_fs (trm_fs (trm_fs (trm_fs (trm_fs (trm_fs (trm_fs (trm_fs (trm_fs (tr5_0 h33) s8_ (by first | exact fs_rg rfl | exact fun r j hj => (fs_n (by omega) (fs_n (by omega) rfl)))) s18_ (by first | exact fs_rg rfl | exact fun r j hj => (fs_n (by omega) (fs_n (by omega) rfl)))) s28_ (by first | exact fs_rg rfl | exact fun r j hj => (fs_n (by omega) (fs_n (by omega) rfl)))) s38_ (by first | exact fs_rg rfl | exact fun r j hj => (fs_n (by omega) (fs_n (by omega) rfl)))) s50_ (by first | exact fs_rg rfl | exact fun r j hj => (fs_n (by omega) rfl))) s59_ (by first | exact fs_rg rfl | exact fun r j hj => (fs_n (by omega) rfl))) s69_ (by first | exact fs_rg rfl | exact fun r j hj => (fs_n (by omega) (fs_n (by omega) rfl)))) s79_ (by first | exact fs_rg rfl | exact fun r j hj => (fs_n (by omega) (fs_n (by omega) rfl)))) s89_ (by first | exact fs_rg rfl | exact fun r j hj => (fs_n (by omega) (fs_n (by omega) rfl)))) s101_ (by first | exact fs_rg rfl | exact fun r j hj => (fs_n (by omega) rfl))) s2039_ (by first | exact fs_rg rfl | exact fun r j hj => (fs_n (by omega) rfl))) s2049_ (by first | exact fs_rg rfl | exact fun r j hj => (fs_n (by omega) (fs_n (by omega) rfl)))) s2059_ (by first | exact fs_rg rfl | exact fun r j hj => (fs_n (by omega) (fs_n (by omega) rfl)))) s2069_ (by first | exact fs_rg rfl | exact fun r j hj => (fs_n (by omega) (fs_n (by omega) rfl)))) s2725_ (by first | exact fs_rg rfl | exact fun r j hj => (fs_n (by omega) (fs_n (by omega) rfl)))) s2868_ (by first | exact fs_rg rfl | exact fun r j hj => (fs_n (by omega) (fs_n (by omega) rfl)))) s2878_ (by first | exact fs_rg rfl | exact fun r j hj => (fs_n (by omega) (fs_n (by omega) rfl)))) s2888_ (by first | exact fs_rg rfl | exact fun r j hj => (fs_n (by omega) (fs_n (by omega) (fs_n (by omega) (fs_n (by omega) rfl)))))) s2898_ (by first | exact fs_rg rfl | exact fun r j hj => (fs_n (by omega) (fs_n (by omega) rfl)))) s2908_ (by first | exact fs_rg rfl | exact fun r j hj => (fs_n (by omega) (fs_n (by omega) rfl)))) s2918_ (by first | exact fs_rg rfl | exact fun r j hj => (fs_n (by omega) (fs_n (by omega) rfl)))) (by first | decide | exact nc_ rfl | omega)))) (rfl) (⟨by omega, by omega⟩) ((by rw [q2922_]; exact (rpn_u (rpn_fs (rpn_fs (rpn_fs (rpn_fs (rpn_fs (rpn_fs (rpn_fs (rpn_fs (rpn_fs (rpn_fs (rpn_fs (rpn_fs (rpn_fs (rpn_fs (rpn_fs (rpn_fs (rpn_fs (rpn_fs (rpn_fs (rpn_fs (rpn_fs hpl s8_ (fun _ => (by first | exact fs_c rfl | exact (fs_n (by omega) (fs_n (by omega) rfl)))) (by first | exact fs_c rfl | exact (fs_n (by omega) (fs_n (by omega) rfl)))) s18_ (fun _ => (by first | exact fs_c rfl | exact (fs_n (by omega) (fs_n (by omega) rfl)))) (by first | exact fs_c rfl | exact (fs_n (by omega) (fs_n (by omega) rfl)))) s28_ (fun _ => (by first | exact fs_c rfl | exact (fs_n (by omega) (fs_n (by omega) rfl)))) (by first | exact fs_c rfl | exact (fs_n (by omega) (fs_n (by omega) rfl)))) s38_ (fun _ => (by first | exact fs_c rfl | exact (fs_n (by omega) (fs_n (by omega) rfl)))) (by first | exact fs_c rfl | exact (fs_n (by omega) (fs_n (by omega) rfl)))) s50_ (fun _ => (by first | exact fs_c rfl | exact (fs_n (by omega) rfl))) (by first | exact fs_c rfl | exact (fs_n (by omega) rfl))) s59_ (fun _ => (by first | exact fs_c rfl | exact (fs_n (by omega) rfl))) (by first | exact fs_c rfl | exact (fs_n (by omega) rfl))) s69_ (fun _ => (by first | exact fs_c rfl | exact (fs_n (by omega) (fs_n (by omega) rfl)))) (by first | exact fs_c rfl | exact (fs_n (by omega) (fs_n (by omega) rfl)))) s79_ (fun _ => (by first | exact fs_c rfl | exact (fs_n (by omega) (fs_n (by omega) rfl)))) (by first | exact fs_c rfl | exact (fs_n (by omega) (fs_n (by omega) rfl)))) s89_ (fun _ => (by first | exact fs_c rfl | exact (fs_n (by omega) (fs_n (by omega) rfl)))) (by first | exact fs_c rfl | exact (fs_n (by omega) (fs_n (by omega) rfl)))) s101_ (fun _ => (by first | exact fs_c rfl | exact (fs_n (by omega) rfl))) (by first | exact fs_c rfl | exact (fs_n (by omega) rfl))) s2039_ (fun _ => (by first | exact fs_c rfl | exact (fs_n (by omega) rfl))) (by first | exact fs_c rfl | exact (fs_n (by omega) rfl))) s2049_ (fun _ => (by first | exact fs_c rfl | exact (fs_n (by omega) (fs_n (by omega) rfl)))) (by first | exact fs_c rfl | exact (fs_n (by omega) (fs_n (by omega) rfl)))) s2059_ (fun _ => (by first | exact fs_c rfl | exact (fs_n (by omega) (fs_n (by omega) rfl)))) (by first | exact fs_c rfl | exact (fs_n (by omega) (fs_n (by omega) rfl)))) s2069_ (fun _ => (by first | exact fs_c rfl | exact (fs_n (by omega) (fs_n (by omega) rfl)))) (by first | exact fs_c rfl | exact (fs_n (by omega) (fs_n (by omega) rfl)))) s2725_ (fun _ => (by first | exact fs_c rfl | exact (fs_n (by omega) (fs_n (by omega) rfl)))) (by first | exact fs_c rfl | exact (fs_n (by omega) (fs_n (by omega) rfl)))) s2868_ (fun _ => (by first | exact fs_c rfl | exact (fs_n (by omega) (fs_n (by omega) rfl)))) (by first | exact fs_c rfl | exact (fs_n (by omega) (fs_n (by omega) rfl)))) s2878_ (fun _ => (by first | exact fs_c rfl | exact (fs_n (by omega) (fs_n (by omega) rfl)))) (by first | exact fs_c rfl | exact (fs_n (by omega) (fs_n (by omega) rfl)))) s2888_ (fun _ => (by first | exact fs_c rfl | exact (fs_n (by omega) (fs_n (by omega) (fs_n (by omega) (fs_n (by omega) rfl)))))) (by first | exact fs_c rfl | exact (fs_n (by omega) (fs_n (by omega) (fs_n (by omega) (fs_n (by omega) rfl)))))) s2898_ (fun _ => (by first | exact fs_c rfl | exact (fs_n (by omega) (fs_n (by omega) rfl)))) (by first | exact fs_c rfl | exact (fs_n (by omega) (fs_n (by omega) rfl)))) s2908_ (fun _ => (by first | exact fs_c rfl | exact (fs_n (by omega) (fs_n (by omega) rfl)))) (by first | exact fs_c rfl | exact (fs_n (by omega) (fs_n (by omega) rfl)))) s2918_ (fun _ => (by first | exact fs_c rfl | exact (fs_n (by omega) (fs_n (by omega) rfl)))) (by first | exact fs_c rfl | exact (fs_n (by omega) (fs_n (by omega) rfl)))) (by first | decide | exact nc_ rfl | omega) (by first | decide | exact nc_ rfl | omega)))) (⟨(by rw [q2922_]; exact (rprd_u (rprd_fs (rprd_fs (rprd_fs (rprd_fs (rprd_fs (rprd_fs (rprd_fs (rprd_fs (rprd_fs (rprd_fs (rprd_fs (rprd_fs (rprd_fs (rprd_fs (rprd_fs (rprd_fs (rprd_fs (rprd_fs (rprd_fs (rprd_fs (rprd_fs hps.1 s8_ (by first | exact fs_rg rfl | exact fun r j hj => (fs_n (by omega) (fs_n (by omega) rfl)))) s18_ (by first | exact fs_rg rfl | exact fun r j hj => (fs_n (by omega) (fs_n (by omega) rfl)))) s28_ (by first | exact fs_rg rfl | exact fun r j hj => (fs_n (by omega) (fs_n (by omega) rfl)))) s38_ (by first | exact fs_rg rfl | exact fun r j hj => (fs_n (by omega) (fs_n (by omega) rfl)))) s50_ (by first | exact fs_rg rfl | exact fun r j hj => (fs_n (by omega) rfl))) s59_ (by first | exact fs_rg rfl | exact fun r j hj => (fs_n (by omega) rfl))) s69_ (by first | exact fs_rg rfl | exact fun r j hj => (fs_n (by omega) (fs_n (by omega) rfl)))) s79_ (by first | exact fs_rg rfl | exact fun r j hj => (fs_n (by omega) (fs_n (by omega) rfl)))) s89_ (by first | exact fs_rg rfl | exact fun r j hj => (fs_n (by omega) (fs_n (by omega) rfl)))) s101_ (by first | exact fs_rg rfl | exact fun r j hj => (fs_n (by omega) rfl))) s2039_ (by first | exact fs_rg rfl | exact fun r j hj => (fs_n (by omega) rfl))) s2049_ (by first | exact fs_rg rfl | exact fun r j hj => (fs_n (by omega) (fs_n (by omega) rfl)))) s2059_ (by first | exact fs_rg rfl | exact fun r j hj => (fs_n (by omega) (fs_n (by omega) rfl)))) s2069_ (by first | exact fs_rg rfl | exact fun r j hj => (fs_n (by omega) (fs_n (by omega) rfl)))) s2725_ (by first | exact fs_rg rfl | exact fun r j hj => (fs_n (by omega) (fs_n (by omega) rfl)))) s2868_ (by first | exact fs_rg rfl | exact fun r j hj => (fs_n (by omega) (fs_n (by omega) rfl)))) s2878_ (by first | exact fs_rg rfl | exact fun r j hj => (fs_n (by omega) (fs_n (by omega) rfl)))) s2888_ (by first | exact fs_rg rfl | exact fun r j hj => (fs_n (by omega) (fs_n (by omega) (fs_n (by omega) (fs_n (by omega) rfl)))))) s2898_ (by first | exact fs_rg rfl | exact fun r j hj => (fs_n (by omega) (fs_n (by omega) rfl)))) s2908_ (by first | exact fs_rg rfl | exact fun r j hj => (fs_n (by omega) (fs_n (by omega) rfl)))) s2918_ (by first | exact fs_rg rfl | exact fun r j hj => (fs_n (by omega) (fs_n (by omega) rfl)))) (by first | decide | exact nc_ rfl | omega))), hps.2⟩) (⟨by omega, by omega⟩) (Or.inr (by omega)) (by rw [q2922_]; exact fl_u_eq)) (fun _ _ h => False.elim h) ?_
  have e2929_ : F2921_ 344 9 = F2916_ 344 9 := by rw [q2922_]; exact fl_u_ne (by first | exact nc_ rfl | decide | omega)
  have b2930_ : 0 ≤ F2916_ 344 9 ∧ F2916_ 344 9 ≤ 5 := gi_g g2917_ rfl
  rintro A1_ ⟨F2933_, hA_, g2934_, s2935_, c2931_, c2932_⟩
  subst hA_
  have g2936_ : fs [(344, 344, 5, 5), (344, 344, 9, 10), (344, 344, 33, 33), (344, 344, 36, 36), (344, 344, 64, 64), (358, 358, 0, 100000), (360, 366, 0, 100000)] F F2933_ := fs_tr g2924_ s2935_ rfl
  have rk2937_ : rk K F2933_ := rk_fs rk2925_ s2935_ (fs_rg rfl) rfl
  try simp only [e2929_] at c2931_
  refine ga_aload_n (v := .ref 344) hm_184 rfl rfl rfl ?_
  refine fl_bipush hm_184 rfl rfl ?_
  have b2938_ : 0 ≤ F2933_ 344 5 ∧ F2933_ 344 5 ≤ 600 := gi_g g2934_ rfl
  refine gVv (nY := 2) (F := 2) (L := 41) (As := [.int (Int32.ofInt 41)]) (b := 344) (rest := []) hm_184 rfl hm_51 rfl rfl (fl_ob sc_344) rfl rfl rfl rfl rfl (by omega) (by omega) (mc_51s hG F2933_ X g2934_ (K) (41) (1) hgK rk2937_ hkt (⟨by omega, by omega⟩) (by omega) (by omega)) (fun _ _ h => False.elim h) ?_
  have b2940_ : 0 ≤ F2933_ 344 9 ∧ F2933_ 344 9 ≤ 5 := gi_g g2934_ rfl
  rintro A1_ ⟨F2943_, hA_, g2944_, s2945_, c2941_, c2942_⟩
  subst hA_
  have g2946_ : fs [(344, 344, 5, 5), (344, 344, 9, 10), (344, 344, 33, 33), (344, 344, 36, 36), (344, 344, 64, 64), (358, 358, 0, 100000), (360, 366, 0, 100000)] F F2943_ := fs_tr g2936_ s2945_ rfl
  have rk2947_ : rk K F2943_ := rk_fs rk2937_ s2945_ (fs_rg rfl) rfl
  refine ga_aload_n (v := .ref 344) hm_184 rfl rfl rfl ?_
  refine fl_bipush hm_184 rfl rfl ?_
  have b2948_ : 0 ≤ F2943_ 344 5 ∧ F2943_ 344 5 ≤ 600 := gi_g g2944_ rfl
  refine gVv (nY := 2) (F := 2) (L := 41) (As := [.int (Int32.ofInt 41)]) (b := 344) (rest := []) hm_184 rfl hm_51 rfl rfl (fl_ob sc_344) rfl rfl rfl rfl rfl (by omega) (by omega) (mc_51s hG F2943_ X g2944_ (K) (41) (1) hgK rk2947_ hkt (⟨by omega, by omega⟩) (by omega) (by omega)) (fun _ _ h => False.elim h) ?_
  have b2950_ : 0 ≤ F2943_ 344 9 ∧ F2943_ 344 9 ≤ 5 := gi_g g2944_ rfl
  rintro A1_ ⟨F2953_, hA_, g2954_, s2955_, c2951_, c2952_⟩
  subst hA_
  have g2956_ : fs [(344, 344, 5, 5), (344, 344, 9, 10), (344, 344, 33, 33), (344, 344, 36, 36), (344, 344, 64, 64), (358, 358, 0, 100000), (360, 366, 0, 100000)] F F2953_ := fs_tr g2946_ s2955_ rfl
  have rk2957_ : rk K F2953_ := rk_fs rk2947_ s2955_ (fs_rg rfl) rfl
  refine ga_aload_n (v := .ref 344) hm_184 rfl rfl rfl ?_
  refine gIi (nY := 1) (F := 0) (L := 0) (As := []) (b := 344) (rest := []) hm_184 rfl hm_59 rfl rfl (fl_ob sc_344) rfl rfl rfl rfl rfl (by omega) (by omega) ?_
  intro f2958_ l2959_ h2960_ h2961_
  show fl_R xi_ms 59 f2958_ l2959_ 0 [(0, .ref 344)] [] _ _
  refine ga_aload_n (v := .ref 344) hm_59 rfl rfl rfl ?_
  have b2962_ : 0 ≤ F2953_ 344 9 ∧ F2953_ 344 9 ≤ 5 := gi_g g2954_ rfl
  refine ga_geti (z := F2953_ 344 9) hm_59 rfl sc_344 rfl (rfl) ?_
  refine fl_if_le (a := F2953_ 344 9) hm_59 rfl ⟨by omega, by omega⟩ (fun h2963_ => ?_) (fun h2964_ => ?_)
  ·
    refine fl_iconst hm_59 rfl ?_
    refine gr_i hm_59 rfl rfl (ga_nb (by omega)) ?_
    clear h2960_ h2961_ f2958_ l2959_
    refine fl_if_ne hm_184 rfl ⟨by omega, by omega⟩ (fun h => absurd h (by omega)) (fun _ => ?_)
    refine ga_aload_n (v := .ref 344) hm_184 rfl rfl rfl ?_
    have b2965_ : 0 ≤ F2953_ 344 5 ∧ F2953_ 344 5 ≤ 600 := gi_g g2954_ rfl
    refine ga_geti (z := F2953_ 344 5) hm_184 rfl sc_344 rfl (rfl) ?_
    refine ga_aload_n (v := .ref 344) hm_184 rfl rfl rfl ?_
    have e2966_ : F2953_ 344 4 = K 1 6 - 1 := rk2957_.2.1
    refine ga_geti (z := K 1 6 - 1) hm_184 rfl sc_344 rfl (e2966_) ?_
    refine fl_icmp_ge (a := F2953_ 344 5) (b := K 1 6 - 1) hm_184 rfl ⟨by omega, by omega⟩ ⟨by omega, by omega⟩ (fun h2967_ => ?_) (fun h2968_ => ?_)
    ·
      refine gr_v hm_184 rfl rfl ?_
      exact ⟨F2953_, rfl, g2954_, g2956_, (⟨by omega, by omega⟩)⟩
    refine ga_aload_n (v := .ref 344) hm_184 rfl rfl rfl ?_
    refine fl_iconst hm_184 rfl ?_
    refine gVv (nY := 2) (F := 0) (L := 0) (As := [.int (Int32.ofInt 1)]) (b := 344) (rest := []) hm_184 rfl hm_54 rfl rfl (fl_ob sc_344) rfl rfl rfl rfl rfl (by omega) (by omega) (mc_54 hG F2953_ X g2954_ (K) (1) hgK rk2957_ hkt (⟨by omega, by omega⟩) (⟨by omega, by omega⟩)) (fun _ _ h => False.elim h) ?_
    have b2970_ : 0 ≤ F2953_ 344 10 ∧ F2953_ 344 10 ≤ 600 := gi_g g2954_ rfl
    rintro A1_ ⟨F2974_, hA_, g2975_, s2976_, c2971_, c2972_, c2973_⟩
    subst hA_
    have g2977_ : fs [(344, 344, 5, 5), (344, 344, 9, 10), (344, 344, 33, 33), (344, 344, 36, 36), (344, 344, 64, 64), (358, 358, 0, 100000), (360, 366, 0, 100000)] F F2974_ := fs_tr g2956_ s2976_ rfl
    have rk2978_ : rk K F2974_ := rk_fs rk2957_ s2976_ (fs_rg rfl) rfl
    have c2972_s := c2972_.1 (by omega)
    clear c2972_
    refine gr_v hm_184 rfl rfl ?_
    have e2979_ : F2974_ 344 5 = F2953_ 344 5 := (s2976_ 344 5 rfl).trans (rfl)
    exact ⟨F2974_, rfl, g2975_, g2977_, (⟨by omega, by omega⟩)⟩
  refine fl_iconst hm_59 rfl ?_
  refine fl_goto hm_59 rfl ?_
  refine gr_i hm_59 rfl rfl (ga_nb (by omega)) ?_
  clear h2960_ h2961_ f2958_ l2959_
  refine fl_if_ne hm_184 rfl ⟨by omega, by omega⟩ (fun _ => ?_) (fun h => absurd (by omega) h)
  refine gr_v hm_184 rfl rfl ?_
  have b2980_ : 0 ≤ F2953_ 344 5 ∧ F2953_ 344 5 ≤ 600 := gi_g g2954_ rfl
  exact ⟨F2953_, rfl, g2954_, g2956_, (⟨by omega, by omega⟩)⟩

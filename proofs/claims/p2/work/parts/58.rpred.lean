def sp_q1 (K : fl_N) (ts l : List Int) (p : Int) : PR (Int × List Int × List Int) := if (l.length : Int) = 6 then pf K p 1 else pb (sp_kind K 0 p) fun p => pb (sp_new K 2 l p) fun q => pb (sp_params K ts 2 [] [] q.1) fun r => pb (sp_kind K 1 r.1) fun p => .inr (p, q.2, r.2.2)
theorem sp1_ok {K : fl_N} {ts l tl : List Int} {m : Nat} {p : Int} {q : Int × List Int × List Int} (h : sp_p1 K ts m l tl p = .inr q) : sp_params K ts m l tl p = .inr q := by
  unfold sp_p1 at h
  obtain ⟨a, h1, h2⟩ := pb_ok h
  split at h2
  · rw [h1, Sum.inr.inj h2]
  · cases h2
theorem sp1_fl {K : fl_N} {ts l tl : List Int} {m : Nat} {p : Int} {e : Int × Int} {α : Type} {f : Int × List Int × List Int → Int → PR α} (h : sp_p1 K ts m l tl p = .inl e) : pb (sp_params K ts m l tl p) (fun r => pb (sp_kind K 1 r.1) (f r)) = .inl e := by
  unfold sp_p1 at h
  cases hx : sp_params K ts m l tl p with
  | inl e2 =>
    rw [hx] at h
    have h9 : e2 = e := Sum.inl.inj h
    rw [h9]
    rfl
  | inr a =>
    rw [hx, pb_r] at h
    split at h
    · cases h
    · rename_i hk
      rw [pb_r, sp_kind, if_neg hk]
      have h9 := Sum.inl.inj h
      show Sum.inl (1, K 4 _) = _
      rw [h9]
/-- the predicates' sizes and types, as the reference keeps them -/
def rprd (F : fl_N) (ps : List (List Int)) : Prop := ∀ i : Nat, i < ps.length → F 351 i = ((ps.getD i []).length : Int) ∧ rty (F 352) (2 * i) (ps.getD i []) ∧ (ps.getD i []).length ≤ 2
theorem rty_cg {g g' : Nat → Int} {a b : Nat} {tl : List Int} (h : rty g a tl) (hg : ∀ j : Nat, j < tl.length → g' (a + j) = g (a + j)) (hb : a = b := by omega) : rty g' b tl := by
  subst hb
  intro j x hx
  rw [hg j (List.getElem?_eq_some_iff.mp hx).1]
  exact h j x hx
theorem rprd_add {F F' : fl_N} {ps : List (List Int)} {t : List Int} {P : Int} (h : rprd F ps) (hP : P = (ps.length : Int) ∧ t.length ≤ 2) (h1 : ∀ j : Nat, (j : Int) < P → F' 351 j = F 351 j) (h2 : ∀ j : Nat, (j : Int) < 2 * P → F' 352 j = F 352 j) (h3 : F' 351 P.toNat = (t.length : Int)) (h4 : rty (F' 352) (2 * P).toNat t) : rprd F' (ps ++ [t]) := by
  intro i hi
  rw [List.length_append, List.length_singleton] at hi
  by_cases e : i < ps.length
  · have e3 : (ps ++ [t]).getD i [] = ps.getD i [] := by
      rw [List.getD_eq_getElem?_getD, List.getD_eq_getElem?_getD, List.getElem?_append_left e]
    rw [e3]
    obtain ⟨a, b, c⟩ := h i e
    refine ⟨by rw [h1 i (by omega)]; exact a, rty_cg b (fun j hj => h2 _ (by omega)) rfl, c⟩
  · have e2 : i = ps.length := by omega
    subst e2
    have e3 : (ps ++ [t]).getD ps.length [] = t := by simp [List.getD]
    rw [e3]
    refine ⟨by rw [← h3]; congr 1; omega, by rw [show 2 * ps.length = (2 * P).toNat by omega]; exact h4, hP.2⟩

/- CheapPlannerModel.readPredicate -/
abbrev pq_182 (G : Nat → Nat → Option Nat) (F : fl_N) (X : xi_H) (K : fl_N) (ts l : List Int) (ps : List (List Int)) : Outcome → xi_H → Prop := gqv (fun A => (∃ F' : fl_N, fl_H sh_T G F' ++ X = A ∧ gi F' ∧ fs [(344, 344, 5, 5), (344, 344, 9, 10), (344, 344, 17, 17), (350, 352, 0, 100000), (383, 383, 0, 100000)] F F' ∧ (¬ F' 344 9 = 0) ∧ ((F 344 9 = 0 → sp_q1 K ts l (F 344 5) = .inl (F' 344 9, F' 344 10)) ∧ (¬ F 344 9 = 0 → F' 344 9 = F 344 9 ∧ F' 344 10 = F 344 10)) ∧ (0 ≤ F' 344 5 ∧ F' 344 5 ≤ K 1 6 - 1)) ∨ (∃ F' : fl_N, fl_H sh_T G F' ++ X = A ∧ gi F' ∧ fs [(344, 344, 5, 5), (344, 344, 9, 10), (344, 344, 17, 17), (350, 352, 0, 100000), (383, 383, 0, 100000)] F F' ∧ (F' 344 9 = 0 ∧ F 344 9 = 0) ∧ (∃ c t, sp_q1 K ts l (F 344 5) = .inr (F' 344 5, l ++ [c], t) ∧ rpn (F' 350) (F' 344 17) (l ++ [c]) ∧ (rprd F' (ps ++ [t]) ∧ (ps ++ [t]).length = (l ++ [c]).length)) ∧ (0 ≤ F' 344 5 ∧ F' 344 5 ≤ K 1 6 - 1))) gqn
theorem mc_182 {G : Nat → Nat → Option Nat} (hG : gg G) (F : fl_N) (X : xi_H) (hgi : gi F) (K : fl_N) (ts l : List Int) (ps : List (List Int)) (hgK : gi K) (hrk : rk K F) (hkt : rkt K) (hp : 0 ≤ F 344 5 ∧ F 344 5 ≤ K 1 6 - 1) (hts : rpn (F 349) (F 344 15) ts) (hl : rpn (F 350) (F 344 17) l) (hps : rprd F ps ∧ ps.length = l.length) : fl_M xi_ms 182 5 112 [.ref 344] (fl_H sh_T G F ++ X) (pq_182 G F X K ts l ps) := by
  intro fr lo hfr hlo
  show fl_R xi_ms 182 fr lo 0 [(0, .ref 344)] [] _ _
  have hP := rkt_p hkt hp.1 hp.2 hgK
  have hK16 : 0 ≤ K 1 6 ∧ K 1 6 ≤ 601 := gi_g hgK rfl
  have hko := hkt.1
  have hl1 := hl.1
  have hb17 : 0 ≤ F 344 17 ∧ F 344 17 ≤ 6 := gi_g hgi rfl
  have b1_ : 0 ≤ F 344 9 ∧ F 344 9 ≤ 5 := gi_g hgi rfl
  by_cases h2_ : F 344 9 = 0
  ·
    refine ga_aload_n (v := .ref 344) hm_182 rfl rfl rfl ?_
    have b3_ : 0 ≤ F 344 17 ∧ F 344 17 ≤ 6 := gi_g hgi rfl
    refine ga_geti (z := F 344 17) hm_182 rfl sc_344 rfl (rfl) ?_
    refine fl_bipush hm_182 rfl rfl ?_
    refine fx_icmp_ne (a := F 344 17) (b := 6) hm_182 rfl ⟨by omega, by omega⟩ ⟨by omega, by omega⟩ (fun h4_ => ?_) (fun h5_ => ?_)
    ·
      refine ga_aload_n (v := .ref 344) hm_182 rfl rfl rfl ?_
      refine fl_bipush hm_182 rfl rfl ?_
      have b6_ : 0 ≤ F 344 5 ∧ F 344 5 ≤ 600 := gi_g hgi rfl
      refine gVv (nY := 2) (F := 2) (L := 41) (As := [.int (Int32.ofInt 40)]) (b := 344) (rest := []) hm_182 rfl hm_51 rfl rfl (fl_ob sc_344) rfl rfl rfl rfl rfl (by omega) (by omega) (mc_51 hG F X hgi (K) (40) (0) hgK hrk hkt (by omega) (by omega) (by omega)) (fun _ _ h => False.elim h) ?_
      have b8_ : 0 ≤ F 344 10 ∧ F 344 10 ≤ 600 := gi_g hgi rfl
      rintro A1_ (⟨F12_, hA_, g13_, s14_, c9_, c10_, c11_⟩ | ⟨F18_, hA_, g19_, s20_, c15_, c16_, c17_⟩)
      ·
        subst hA_
        have g21_ : fs [(344, 344, 5, 5), (344, 344, 9, 10), (344, 344, 17, 17), (350, 352, 0, 100000), (383, 383, 0, 100000)] F F12_ := fs_tr fs_refl s14_ rfl
        have rk22_ : rk K F12_ := rk_fs hrk s14_ (fun r k h => (fs_n (by omega) (fs_n (by omega) rfl))) (fs_n (by omega) (fs_n (by omega) rfl))
        have hP23_ := rkt_p hkt (p := F12_ 344 5) (by omega) (by omega) hgK
        refine ga_aload_n (v := .ref 344) hm_182 rfl rfl rfl ?_
        have b24_ : 0 ≤ F12_ 344 5 ∧ F12_ 344 5 ≤ 600 := gi_g g13_ rfl
        refine gVl (nY := 3) (F := 2) (L := 46) (As := []) (b := 344) (rest := []) hm_182 rfl hm_58 rfl rfl (fl_ob sc_344) rfl rfl rfl rfl rfl (by omega) (by omega) (mc_58 hG F12_ X g13_ (K) hgK rk22_ hkt (by omega)) (fun _ _ h => False.elim h) ?_
        have b26_ : 0 ≤ F12_ 344 10 ∧ F12_ 344 10 ≤ 600 := gi_g g13_ rfl
        have b27_ : 0 ≤ F12_ 344 9 ∧ F12_ 344 9 ≤ 5 := gi_g g13_ rfl
        rintro z25_ A1_ (⟨F32_, hA_, g33_, s34_, c28_, c29_, c30_, c31_⟩ | ⟨F41_, hA_, g42_, s43_, c35_, c36_, c37_, c38_, c39_, c40_⟩)
        ·
          subst hA_
          have g44_ : fs [(344, 344, 5, 5), (344, 344, 9, 10), (344, 344, 17, 17), (350, 352, 0, 100000), (383, 383, 0, 100000)] F F32_ := fs_tr g21_ s34_ rfl
          have rk45_ : rk K F32_ := rk_fs rk22_ s34_ (fun r k h => (fs_n (by omega) rfl)) (fs_n (by omega) rfl)
          have e46_ : F32_ 344 5 = F12_ 344 5 := (s34_ 344 5 rfl).trans (rfl)
          refine ga_lstore_n (lv2 := [(1, .long (Int64.ofInt z25_)), (0, .ref 344)]) hm_182 rfl (Nat.le_of_ble_eq_true rfl) rfl ?_
          refine ga_aload_n (v := .ref 344) hm_182 rfl rfl rfl ?_
          refine gIi (nY := 1) (F := 0) (L := 0) (As := []) (b := 344) (rest := []) hm_182 rfl hm_59 rfl rfl (fl_ob sc_344) rfl rfl rfl rfl rfl (by omega) (by omega) ?_
          intro f47_ l48_ h49_ h50_
          show fl_R xi_ms 59 f47_ l48_ 0 [(0, .ref 344)] [] _ _
          refine ga_aload_n (v := .ref 344) hm_59 rfl rfl rfl ?_
          have b51_ : 0 ≤ F32_ 344 9 ∧ F32_ 344 9 ≤ 5 := gi_g g33_ rfl
          refine ga_geti (z := F32_ 344 9) hm_59 rfl sc_344 rfl (rfl) ?_
          refine fl_if_le (a := F32_ 344 9) hm_59 rfl ⟨by omega, by omega⟩ (fun h52_ => ?_) (fun h53_ => ?_)
          · exfalso; omega
          refine fl_iconst hm_59 rfl ?_
          refine fl_goto hm_59 rfl ?_
          refine gr_i hm_59 rfl rfl (ga_nb (by omega)) ?_
          refine fl_if_ne hm_182 rfl ⟨by omega, by omega⟩ (fun _ => ?_) (fun h => absurd (by omega) h)
          refine ga_aload_n (v := .ref 344) hm_182 rfl rfl rfl ?_
          refine gIv (nY := 1) (F := 1) (L := 20) (As := []) (b := 344) (rest := []) hm_182 rfl hm_61 rfl rfl (fl_ob sc_344) rfl rfl rfl rfl rfl (by omega) (by omega) ?_
          intro f54_ l55_ h56_ h57_
          show fl_R xi_ms 61 f54_ l55_ 0 [(0, .ref 344)] [] _ _
          refine ga_aload_n (v := .ref 344) hm_61 rfl rfl rfl ?_
          refine ga_dup hm_61 rfl rfl ?_
          refine ga_geti (z := F12_ 344 5) hm_61 rfl sc_344 rfl (e46_) ?_
          refine ga_aload_n (v := .ref 344) hm_61 rfl rfl rfl ?_
          refine gIi (nY := 1) (F := 0) (L := 0) (As := []) (b := 344) (rest := [.int (Int32.ofInt (F12_ 344 5)), .ref 344]) hm_61 rfl hm_59 rfl rfl (fl_ob sc_344) rfl rfl rfl rfl rfl (by omega) (by omega) ?_
          intro f58_ l59_ h60_ h61_
          show fl_R xi_ms 59 f58_ l59_ 0 [(0, .ref 344)] [] _ _
          refine ga_aload_n (v := .ref 344) hm_59 rfl rfl rfl ?_
          refine ga_geti (z := F32_ 344 9) hm_59 rfl sc_344 rfl (rfl) ?_
          refine fl_if_le (a := F32_ 344 9) hm_59 rfl ⟨by omega, by omega⟩ (fun h62_ => ?_) (fun h63_ => ?_)
          · exfalso; omega
          refine fl_iconst hm_59 rfl ?_
          refine fl_goto hm_59 rfl ?_
          refine gr_i hm_59 rfl rfl (ga_nb (by omega)) ?_
          refine fl_if_eq hm_61 rfl ⟨by omega, by omega⟩ (fun h => absurd h (by omega)) (fun _ => ?_)
          refine fl_iconst hm_61 rfl ?_
          refine fl_goto hm_61 rfl ?_
          refine ga_iadd (a := F12_ 344 5) (b := 0) (c := F12_ 344 5) hm_61 rfl (by omega) ?_
          refine ga_puti (z := F12_ 344 5) hm_61 rfl sc_344 rfl rfl ?_
          refine gr_v hm_61 rfl rfl ?_
          refine ga_aload_n (v := .ref 344) hm_182 rfl rfl rfl ?_
          refine gIi (nY := 1) (F := 0) (L := 0) (As := []) (b := 344) (rest := []) hm_182 rfl hm_59 rfl rfl (fl_ob sc_344) rfl rfl rfl rfl rfl (by omega) (by omega) ?_
          intro f64_ l65_ h66_ h67_
          show fl_R xi_ms 59 f64_ l65_ 0 [(0, .ref 344)] [] _ _
          refine ga_aload_n (v := .ref 344) hm_59 rfl rfl rfl ?_
          refine ga_geti (z := F32_ 344 9) hm_59 rfl sc_344 rfl (fl_u_ne (by omega)) ?_
          refine fl_if_le (a := F32_ 344 9) hm_59 rfl ⟨by omega, by omega⟩ (fun h68_ => ?_) (fun h69_ => ?_)
          · exfalso; omega
          refine fl_iconst hm_59 rfl ?_
          refine fl_goto hm_59 rfl ?_
          refine gr_i hm_59 rfl rfl (ga_nb (by omega)) ?_
          refine fl_if_eq hm_182 rfl ⟨by omega, by omega⟩ (fun h => absurd h (by omega)) (fun _ => ?_)
          obtain ⟨F70_, q71_⟩ : ∃ F9_, F9_ = (fl_u F32_ 344 5 (F12_ 344 5)) := ⟨_, rfl⟩
          rw [← q71_]
          have g72_ : gi F70_ := by rw [q71_]; exact gi_u (g33_) rfl (by omega) (by omega)
          have g73_ : fs [(344, 344, 5, 5), (344, 344, 9, 10), (344, 344, 17, 17), (350, 352, 0, 100000), (383, 383, 0, 100000)] F F70_ := by rw [q71_]; exact fs_u (g44_) rfl
          have rk74_ : rk K F70_ := by rw [q71_]; exact rk_u (rk45_) (by omega) (by omega)
          refine gr_v hm_182 rfl rfl ?_
          have e75_ : F70_ 344 9 = F32_ 344 9 := by rw [q71_]; exact fl_u_ne (by omega)
          have e76_ : F70_ 344 10 = F32_ 344 10 := by rw [q71_]; exact fl_u_ne (by omega)
          have e77_ : F70_ 344 5 = F12_ 344 5 := by rw [q71_]; exact fl_u_eq
          have b78_ : 0 ≤ F32_ 344 10 ∧ F32_ 344 10 ≤ 600 := gi_g g33_ rfl
          exact Or.inl ⟨F70_, rfl, g72_, g73_, (by omega), (⟨by intro h0_; have hs_ := c10_.1 (by omega); have c29__k := c29_.2 (by omega); rw [sp_q1, if_neg (by omega)]; rw [hs_]; show Sum.inl _ = _; congr 2 <;> omega, fun h0_ => by exfalso; omega⟩), (by omega)⟩
        exfalso; omega
      subst hA_
      have g79_ : fs [(344, 344, 5, 5), (344, 344, 9, 10), (344, 344, 17, 17), (350, 352, 0, 100000), (383, 383, 0, 100000)] F F18_ := fs_tr fs_refl s20_ rfl
      have rk80_ : rk K F18_ := rk_fs hrk s20_ (fun r k h => (fs_n (by omega) (fs_n (by omega) rfl))) (fs_n (by omega) (fs_n (by omega) rfl))
      have hP81_ := rkt_p hkt (p := F18_ 344 5) (by omega) (by omega) hgK
      refine ga_aload_n (v := .ref 344) hm_182 rfl rfl rfl ?_
      have b82_ : 0 ≤ F18_ 344 5 ∧ F18_ 344 5 ≤ 600 := gi_g g19_ rfl
      refine gVl (nY := 3) (F := 2) (L := 46) (As := []) (b := 344) (rest := []) hm_182 rfl hm_58 rfl rfl (fl_ob sc_344) rfl rfl rfl rfl rfl (by omega) (by omega) (mc_58 hG F18_ X g19_ (K) hgK rk80_ hkt (by omega)) (fun _ _ h => False.elim h) ?_
      have b84_ : 0 ≤ F18_ 344 10 ∧ F18_ 344 10 ≤ 600 := gi_g g19_ rfl
      have b85_ : 0 ≤ F18_ 344 9 ∧ F18_ 344 9 ≤ 5 := gi_g g19_ rfl
      rintro z83_ A1_ (⟨F90_, hA_, g91_, s92_, c86_, c87_, c88_, c89_⟩ | ⟨F99_, hA_, g100_, s101_, c93_, c94_, c95_, c96_, c97_, c98_⟩)
      ·
        subst hA_
        have g102_ : fs [(344, 344, 5, 5), (344, 344, 9, 10), (344, 344, 17, 17), (350, 352, 0, 100000), (383, 383, 0, 100000)] F F90_ := fs_tr g79_ s92_ rfl
        have rk103_ : rk K F90_ := rk_fs rk80_ s92_ (fun r k h => (fs_n (by omega) rfl)) (fs_n (by omega) rfl)
        have e104_ : F90_ 344 5 = F18_ 344 5 := (s92_ 344 5 rfl).trans (rfl)
        refine ga_lstore_n (lv2 := [(1, .long (Int64.ofInt z83_)), (0, .ref 344)]) hm_182 rfl (Nat.le_of_ble_eq_true rfl) rfl ?_
        refine ga_aload_n (v := .ref 344) hm_182 rfl rfl rfl ?_
        refine gIi (nY := 1) (F := 0) (L := 0) (As := []) (b := 344) (rest := []) hm_182 rfl hm_59 rfl rfl (fl_ob sc_344) rfl rfl rfl rfl rfl (by omega) (by omega) ?_
        intro f105_ l106_ h107_ h108_
        show fl_R xi_ms 59 f105_ l106_ 0 [(0, .ref 344)] [] _ _
        refine ga_aload_n (v := .ref 344) hm_59 rfl rfl rfl ?_
        have b109_ : 0 ≤ F90_ 344 9 ∧ F90_ 344 9 ≤ 5 := gi_g g91_ rfl
        refine ga_geti (z := F90_ 344 9) hm_59 rfl sc_344 rfl (rfl) ?_
        refine fl_if_le (a := F90_ 344 9) hm_59 rfl ⟨by omega, by omega⟩ (fun h110_ => ?_) (fun h111_ => ?_)
        · exfalso; omega
        refine fl_iconst hm_59 rfl ?_
        refine fl_goto hm_59 rfl ?_
        refine gr_i hm_59 rfl rfl (ga_nb (by omega)) ?_
        refine fl_if_ne hm_182 rfl ⟨by omega, by omega⟩ (fun _ => ?_) (fun h => absurd (by omega) h)
        refine ga_aload_n (v := .ref 344) hm_182 rfl rfl rfl ?_
        refine gIv (nY := 1) (F := 1) (L := 20) (As := []) (b := 344) (rest := []) hm_182 rfl hm_61 rfl rfl (fl_ob sc_344) rfl rfl rfl rfl rfl (by omega) (by omega) ?_
        intro f112_ l113_ h114_ h115_
        show fl_R xi_ms 61 f112_ l113_ 0 [(0, .ref 344)] [] _ _
        refine ga_aload_n (v := .ref 344) hm_61 rfl rfl rfl ?_
        refine ga_dup hm_61 rfl rfl ?_
        refine ga_geti (z := F18_ 344 5) hm_61 rfl sc_344 rfl (e104_) ?_
        refine ga_aload_n (v := .ref 344) hm_61 rfl rfl rfl ?_
        refine gIi (nY := 1) (F := 0) (L := 0) (As := []) (b := 344) (rest := [.int (Int32.ofInt (F18_ 344 5)), .ref 344]) hm_61 rfl hm_59 rfl rfl (fl_ob sc_344) rfl rfl rfl rfl rfl (by omega) (by omega) ?_
        intro f116_ l117_ h118_ h119_
        show fl_R xi_ms 59 f116_ l117_ 0 [(0, .ref 344)] [] _ _
        refine ga_aload_n (v := .ref 344) hm_59 rfl rfl rfl ?_
        refine ga_geti (z := F90_ 344 9) hm_59 rfl sc_344 rfl (rfl) ?_
        refine fl_if_le (a := F90_ 344 9) hm_59 rfl ⟨by omega, by omega⟩ (fun h120_ => ?_) (fun h121_ => ?_)
        · exfalso; omega
        refine fl_iconst hm_59 rfl ?_
        refine fl_goto hm_59 rfl ?_
        refine gr_i hm_59 rfl rfl (ga_nb (by omega)) ?_
        refine fl_if_eq hm_61 rfl ⟨by omega, by omega⟩ (fun h => absurd h (by omega)) (fun _ => ?_)
        refine fl_iconst hm_61 rfl ?_
        refine fl_goto hm_61 rfl ?_
        refine ga_iadd (a := F18_ 344 5) (b := 0) (c := F18_ 344 5) hm_61 rfl (by omega) ?_
        refine ga_puti (z := F18_ 344 5) hm_61 rfl sc_344 rfl rfl ?_
        refine gr_v hm_61 rfl rfl ?_
        refine ga_aload_n (v := .ref 344) hm_182 rfl rfl rfl ?_
        refine gIi (nY := 1) (F := 0) (L := 0) (As := []) (b := 344) (rest := []) hm_182 rfl hm_59 rfl rfl (fl_ob sc_344) rfl rfl rfl rfl rfl (by omega) (by omega) ?_
        intro f122_ l123_ h124_ h125_
        show fl_R xi_ms 59 f122_ l123_ 0 [(0, .ref 344)] [] _ _
        refine ga_aload_n (v := .ref 344) hm_59 rfl rfl rfl ?_
        refine ga_geti (z := F90_ 344 9) hm_59 rfl sc_344 rfl (fl_u_ne (by omega)) ?_
        refine fl_if_le (a := F90_ 344 9) hm_59 rfl ⟨by omega, by omega⟩ (fun h126_ => ?_) (fun h127_ => ?_)
        · exfalso; omega
        refine fl_iconst hm_59 rfl ?_
        refine fl_goto hm_59 rfl ?_
        refine gr_i hm_59 rfl rfl (ga_nb (by omega)) ?_
        refine fl_if_eq hm_182 rfl ⟨by omega, by omega⟩ (fun h => absurd h (by omega)) (fun _ => ?_)
        obtain ⟨F128_, q129_⟩ : ∃ F9_, F9_ = (fl_u F90_ 344 5 (F18_ 344 5)) := ⟨_, rfl⟩
        rw [← q129_]
        have g130_ : gi F128_ := by rw [q129_]; exact gi_u (g91_) rfl (by omega) (by omega)
        have g131_ : fs [(344, 344, 5, 5), (344, 344, 9, 10), (344, 344, 17, 17), (350, 352, 0, 100000), (383, 383, 0, 100000)] F F128_ := by rw [q129_]; exact fs_u (g102_) rfl
        have rk132_ : rk K F128_ := by rw [q129_]; exact rk_u (rk103_) (by omega) (by omega)
        refine gr_v hm_182 rfl rfl ?_
        have e133_ : F128_ 344 9 = F90_ 344 9 := by rw [q129_]; exact fl_u_ne (by omega)
        have e134_ : F128_ 344 10 = F90_ 344 10 := by rw [q129_]; exact fl_u_ne (by omega)
        have e135_ : F128_ 344 5 = F18_ 344 5 := by rw [q129_]; exact fl_u_eq
        have b136_ : 0 ≤ F90_ 344 10 ∧ F90_ 344 10 ≤ 600 := gi_g g91_ rfl
        exact Or.inl ⟨F128_, rfl, g130_, g131_, (by omega), (⟨by intro h0_; have hs_ := c87_.1 (by omega); rw [sp_q1, if_neg (by omega)]; rw [c16_, pb_r]; have h1_ := nm_no hs_; rw [sp_nm, if_neg h1_] at hs_; have h2_ := Prod.mk.inj (Sum.inl.inj hs_); rw [sp_new, if_neg h1_]; show Sum.inl (1, K 4 _) = _; congr 2 <;> omega, fun h0_ => by exfalso; omega⟩), (by omega)⟩
      subst hA_
      have g137_ : fs [(344, 344, 5, 5), (344, 344, 9, 10), (344, 344, 17, 17), (350, 352, 0, 100000), (383, 383, 0, 100000)] F F99_ := fs_tr g79_ s101_ rfl
      have rk138_ : rk K F99_ := rk_fs rk80_ s101_ (fun r k h => (fs_n (by omega) rfl)) (fs_n (by omega) rfl)
      have e139_ : F99_ 344 5 = F18_ 344 5 := (s101_ 344 5 rfl).trans (rfl)
      refine ga_lstore_n (lv2 := [(1, .long (Int64.ofInt z83_)), (0, .ref 344)]) hm_182 rfl (Nat.le_of_ble_eq_true rfl) rfl ?_
      refine ga_aload_n (v := .ref 344) hm_182 rfl rfl rfl ?_
      refine gIi (nY := 1) (F := 0) (L := 0) (As := []) (b := 344) (rest := []) hm_182 rfl hm_59 rfl rfl (fl_ob sc_344) rfl rfl rfl rfl rfl (by omega) (by omega) ?_
      intro f140_ l141_ h142_ h143_
      show fl_R xi_ms 59 f140_ l141_ 0 [(0, .ref 344)] [] _ _
      refine ga_aload_n (v := .ref 344) hm_59 rfl rfl rfl ?_
      have b144_ : 0 ≤ F99_ 344 9 ∧ F99_ 344 9 ≤ 5 := gi_g g100_ rfl
      refine ga_geti (z := F99_ 344 9) hm_59 rfl sc_344 rfl (rfl) ?_
      refine fl_if_le (a := F99_ 344 9) hm_59 rfl ⟨by omega, by omega⟩ (fun h145_ => ?_) (fun h146_ => ?_)
      ·
        refine fl_iconst hm_59 rfl ?_
        refine gr_i hm_59 rfl rfl (ga_nb (by omega)) ?_
        refine fl_if_ne hm_182 rfl ⟨by omega, by omega⟩ (fun h => absurd h (by omega)) (fun _ => ?_)
        refine ga_aload_n (v := .ref 344) hm_182 rfl rfl rfl ?_
        refine ga_getr (b := 350) hm_182 rfl sc_344 rfl ?_
        refine fl_iconst hm_182 rfl ?_
        refine ga_aload_n (v := .ref 344) hm_182 rfl rfl rfl ?_
        have e147_ : F18_ 344 17 = F 344 17 := (s20_ 344 17 rfl).trans (rfl)
        have e148_ : F99_ 344 17 = F 344 17 := (s101_ 344 17 rfl).trans (e147_)
        refine ga_geti (z := F 344 17) hm_182 rfl sc_344 rfl (e148_) ?_
        refine ga_lload_n (z := z83_) hm_182 rfl rfl ?_
        refine gSi (nY := 7) (F := 0) (L := 0) (As := [.ref 350, .int (Int32.ofInt 0), .int (Int32.ofInt (F 344 17)), .long (Int64.ofInt z83_)]) (rest := []) hm_182 rfl hm_162 rfl rfl (fl_pos sc_0) rfl rfl rfl rfl (by omega) (by omega) (mc_162 hG F99_ X g100_ (350) (6) (0) (F 344 17) (z83_) sc_350 (fun _ => rfl) (by omega) (by omega))  ?_
        rintro z149_ A1_ ⟨hA_, c150_, c151_, c152_⟩
        subst hA_
        refine fl_iconst hm_182 rfl ?_
        refine fl_icmp_eq (a := z149_) (b := -1) hm_182 rfl ⟨by omega, by omega⟩ ⟨by omega, by omega⟩ (fun h153_ => ?_) (fun h154_ => ?_)
        ·
          refine ga_aload_n (v := .ref 344) hm_182 rfl rfl rfl ?_
          refine gIv (nY := 1) (F := 1) (L := 20) (As := []) (b := 344) (rest := []) hm_182 rfl hm_61 rfl rfl (fl_ob sc_344) rfl rfl rfl rfl rfl (by omega) (by omega) ?_
          intro f155_ l156_ h157_ h158_
          show fl_R xi_ms 61 f155_ l156_ 0 [(0, .ref 344)] [] _ _
          refine ga_aload_n (v := .ref 344) hm_61 rfl rfl rfl ?_
          refine ga_dup hm_61 rfl rfl ?_
          refine ga_geti (z := F18_ 344 5) hm_61 rfl sc_344 rfl (e139_) ?_
          refine ga_aload_n (v := .ref 344) hm_61 rfl rfl rfl ?_
          refine gIi (nY := 1) (F := 0) (L := 0) (As := []) (b := 344) (rest := [.int (Int32.ofInt (F18_ 344 5)), .ref 344]) hm_61 rfl hm_59 rfl rfl (fl_ob sc_344) rfl rfl rfl rfl rfl (by omega) (by omega) ?_
          intro f159_ l160_ h161_ h162_
          show fl_R xi_ms 59 f159_ l160_ 0 [(0, .ref 344)] [] _ _
          refine ga_aload_n (v := .ref 344) hm_59 rfl rfl rfl ?_
          refine ga_geti (z := F99_ 344 9) hm_59 rfl sc_344 rfl (rfl) ?_
          refine fl_if_le (a := F99_ 344 9) hm_59 rfl ⟨by omega, by omega⟩ (fun h163_ => ?_) (fun h164_ => ?_)
          ·
            refine fl_iconst hm_59 rfl ?_
            refine gr_i hm_59 rfl rfl (ga_nb (by omega)) ?_
            refine fl_if_eq hm_61 rfl ⟨by omega, by omega⟩ (fun _ => ?_) (fun h => absurd (by omega) h)
            refine fl_iconst hm_61 rfl ?_
            refine ga_iadd (a := F18_ 344 5) (b := 1) (c := F18_ 344 5 + 1) hm_61 rfl (by omega) ?_
            refine ga_puti (z := F18_ 344 5 + 1) hm_61 rfl sc_344 rfl rfl ?_
            refine gr_v hm_61 rfl rfl ?_
            refine ga_aload_n (v := .ref 344) hm_182 rfl rfl rfl ?_
            refine gIi (nY := 1) (F := 0) (L := 0) (As := []) (b := 344) (rest := []) hm_182 rfl hm_59 rfl rfl (fl_ob sc_344) rfl rfl rfl rfl rfl (by omega) (by omega) ?_
            intro f165_ l166_ h167_ h168_
            show fl_R xi_ms 59 f165_ l166_ 0 [(0, .ref 344)] [] _ _
            refine ga_aload_n (v := .ref 344) hm_59 rfl rfl rfl ?_
            refine ga_geti (z := F99_ 344 9) hm_59 rfl sc_344 rfl (fl_u_ne (by omega)) ?_
            refine fl_if_le (a := F99_ 344 9) hm_59 rfl ⟨by omega, by omega⟩ (fun h169_ => ?_) (fun h170_ => ?_)
            ·
              refine fl_iconst hm_59 rfl ?_
              refine gr_i hm_59 rfl rfl (ga_nb (by omega)) ?_
              refine fl_if_eq hm_182 rfl ⟨by omega, by omega⟩ (fun _ => ?_) (fun h => absurd (by omega) h)
              refine ga_aload_n (v := .ref 344) hm_182 rfl rfl rfl ?_
              refine ga_getr (b := 350) hm_182 rfl sc_344 rfl ?_
              refine ga_aload_n (v := .ref 344) hm_182 rfl rfl rfl ?_
              refine ga_geti (z := F 344 17) hm_182 rfl sc_344 rfl ((fl_u_ne (by omega)).trans (e148_)) ?_
              refine ga_lload_n (z := z83_) hm_182 rfl rfl ?_
              refine fl_last (z := F 344 17) (v := z83_) hm_182 rfl sc_350 (by omega) (by omega) (by omega) ?_
              refine ga_aload_n (v := .ref 344) hm_182 rfl rfl rfl ?_
              refine ga_getr (b := 351) hm_182 rfl sc_344 rfl ?_
              refine ga_aload_n (v := .ref 344) hm_182 rfl rfl rfl ?_
              refine ga_geti (z := F 344 17) hm_182 rfl sc_344 rfl ((fl_u_ne (by omega)).trans ((fl_u_ne (by omega)).trans (e148_))) ?_
              refine fl_iconst hm_182 rfl ?_
              refine fl_iast (z := F 344 17) (v := 0) hm_182 rfl sc_351 (by omega) (by omega) (by omega) ?_
              refine ga_aload_n (v := .ref 344) hm_182 rfl rfl rfl ?_
              refine ga_getr (b := 351) hm_182 rfl sc_344 rfl ?_
              refine ga_aload_n (v := .ref 344) hm_182 rfl rfl rfl ?_
              refine ga_geti (z := F 344 17) hm_182 rfl sc_344 rfl ((fl_u_ne (by omega)).trans ((fl_u_ne (by omega)).trans ((fl_u_ne (by omega)).trans (e148_)))) ?_
              refine ga_aload_n (v := .ref 344) hm_182 rfl rfl rfl ?_
              obtain ⟨F171_, q172_⟩ : ∃ F9_, F9_ = (fl_u (fl_u (fl_u F99_ 344 5 (F18_ 344 5 + 1)) 350 (F 344 17).toNat z83_) 351 (F 344 17).toNat 0) := ⟨_, rfl⟩
              rw [← q172_]
              have g173_ : gi F171_ := by rw [q172_]; exact gi_u (gi_u (gi_u (g100_) rfl (by omega) (by omega)) rfl (by omega) (by omega)) rfl (by omega) (by omega)
              have g174_ : fs [(344, 344, 5, 5), (344, 344, 9, 10), (344, 344, 17, 17), (350, 352, 0, 100000), (383, 383, 0, 100000)] F F171_ := by rw [q172_]; exact fs_u (fs_u (fs_u (g137_) rfl) (fs_z (fs_z (fs_z (fs_y (by omega)))))) (fs_z (fs_z (fs_z (fs_y (by omega)))))
              have rk175_ : rk K F171_ := by rw [q172_]; exact rk_u (rk_u (rk_u (rk138_) (by omega) (by omega)) (by omega) (by omega)) (by omega) (by omega)
              have e176_ : F171_ 344 5 = F18_ 344 5 + 1 := by rw [q172_]; exact (fl_u_ne (by omega)).trans ((fl_u_ne (by omega)).trans (fl_u_eq))
              have e177_ : F171_ 344 17 = F 344 17 := by rw [q172_]; exact (fl_u_ne (by omega)).trans ((fl_u_ne (by omega)).trans ((fl_u_ne (by omega)).trans (e148_)))
              refine gVi (nY := 4) (F := 4) (L := 89) (As := []) (b := 344) (rest := [.int (Int32.ofInt (F 344 17)), .ref 351]) hm_182 rfl hm_183 rfl rfl (fl_ob sc_344) rfl rfl rfl rfl rfl (by omega) (by omega) (mc_183 hG F171_ X g173_ (K) (ts) hgK rk175_ hkt (by omega) ((by rw [q172_]; exact (rpn_u (rpn_u (rpn_u (rpn_fs (rpn_fs hts s20_ (fun _ => (fs_n (by omega) (fs_n (by omega) rfl))) (fs_n (by omega) (fs_n (by omega) rfl))) s101_ (fun _ => (fs_n (by omega) rfl)) (fs_n (by omega) rfl)) (by omega) (by omega)) (by omega) (by omega)) (by omega) (by omega)))) (by omega)) (fun _ _ h => False.elim h) ?_
              have e179_ : F171_ 344 10 = F99_ 344 10 := by rw [q172_]; exact (fl_u_ne (by omega)).trans ((fl_u_ne (by omega)).trans (fl_u_ne (by omega)))
              have b180_ : 0 ≤ F99_ 344 10 ∧ F99_ 344 10 ≤ 600 := gi_g g100_ rfl
              have e181_ : F171_ 344 9 = F99_ 344 9 := by rw [q172_]; exact (fl_u_ne (by omega)).trans ((fl_u_ne (by omega)).trans (fl_u_ne (by omega)))
              rintro z178_ A1_ (⟨F186_, hA_, g187_, s188_, c182_, c183_, c184_, c185_⟩ | ⟨F193_, hA_, g194_, s195_, c189_, c190_, c191_, c192_⟩)
              ·
                subst hA_
                have g196_ : fs [(344, 344, 5, 5), (344, 344, 9, 10), (344, 344, 17, 17), (350, 352, 0, 100000), (383, 383, 0, 100000)] F F186_ := fs_tr g174_ s188_ rfl
                have rk197_ : rk K F186_ := rk_fs rk175_ s188_ (fun r k h => (fs_n (by omega) (fs_n (by omega) (fs_n (by omega) (fs_n (by omega) rfl))))) (fs_n (by omega) (fs_n (by omega) (fs_n (by omega) (fs_n (by omega) rfl))))
                try simp only [e176_, e179_, e181_] at c183_
                have hP198_ := rkt_p hkt (p := F18_ 344 5 + 1) (by omega) (by omega) hgK
                have hP199_ := rkt_p hkt (p := F186_ 344 5) (by omega) (by omega) hgK
                try obtain ⟨l2_, tl2_, ⟨ct1_, ct2_⟩, ⟨ct3_, ct5_⟩, ct4_, ct6_⟩ := c183_
                refine fl_iast (z := F 344 17) (v := z178_) hm_182 rfl sc_351 (by omega) (by omega) (by omega) ?_
                refine ga_aload_n (v := .ref 344) hm_182 rfl rfl rfl ?_
                refine ga_dup hm_182 rfl rfl ?_
                have e200_ : F186_ 344 17 = F 344 17 := (s188_ 344 17 rfl).trans (e177_)
                refine ga_geti (z := F 344 17) hm_182 rfl sc_344 rfl ((fl_u_ne (by omega)).trans (e200_)) ?_
                refine fl_iconst hm_182 rfl ?_
                refine ga_iadd (a := F 344 17) (b := 1) (c := F 344 17 + 1) hm_182 rfl (by omega) ?_
                refine ga_puti (z := F 344 17 + 1) hm_182 rfl sc_344 rfl rfl ?_
                refine ga_aload_n (v := .ref 344) hm_182 rfl rfl rfl ?_
                refine fl_bipush hm_182 rfl rfl ?_
                obtain ⟨F201_, q202_⟩ : ∃ F9_, F9_ = (fl_u (fl_u F186_ 351 (F 344 17).toNat z178_) 344 17 (F 344 17 + 1)) := ⟨_, rfl⟩
                rw [← q202_]
                have g203_ : gi F201_ := by rw [q202_]; exact gi_u (gi_u (g187_) rfl (by omega) (by omega)) rfl (by omega) (by omega)
                have g204_ : fs [(344, 344, 5, 5), (344, 344, 9, 10), (344, 344, 17, 17), (350, 352, 0, 100000), (383, 383, 0, 100000)] F F201_ := by rw [q202_]; exact fs_u (fs_u (g196_) (fs_z (fs_z (fs_z (fs_y (by omega)))))) rfl
                have rk205_ : rk K F201_ := by rw [q202_]; exact rk_u (rk_u (rk197_) (by omega) (by omega)) (by omega) (by omega)
                have e206_ : F201_ 344 5 = F186_ 344 5 := by rw [q202_]; exact (fl_u_ne (by omega)).trans (fl_u_ne (by omega))
                have b207_ : 0 ≤ F186_ 344 5 ∧ F186_ 344 5 ≤ 600 := gi_g g187_ rfl
                refine gVv (nY := 2) (F := 2) (L := 41) (As := [.int (Int32.ofInt 41)]) (b := 344) (rest := []) hm_182 rfl hm_51 rfl rfl (fl_ob sc_344) rfl rfl rfl rfl rfl (by omega) (by omega) (mc_51 hG F201_ X g203_ (K) (41) (1) hgK rk205_ hkt (by omega) (by omega) (by omega)) (fun _ _ h => False.elim h) ?_
                have e209_ : F201_ 344 10 = F186_ 344 10 := by rw [q202_]; exact (fl_u_ne (by omega)).trans (fl_u_ne (by omega))
                have b210_ : 0 ≤ F186_ 344 10 ∧ F186_ 344 10 ≤ 600 := gi_g g187_ rfl
                have e211_ : F201_ 344 9 = F186_ 344 9 := by rw [q202_]; exact (fl_u_ne (by omega)).trans (fl_u_ne (by omega))
                have b212_ : 0 ≤ F186_ 344 9 ∧ F186_ 344 9 ≤ 5 := gi_g g187_ rfl
                rintro A1_ (⟨F216_, hA_, g217_, s218_, c213_, c214_, c215_⟩ | ⟨F222_, hA_, g223_, s224_, c219_, c220_, c221_⟩)
                ·
                  subst hA_
                  have g225_ : fs [(344, 344, 5, 5), (344, 344, 9, 10), (344, 344, 17, 17), (350, 352, 0, 100000), (383, 383, 0, 100000)] F F216_ := fs_tr g204_ s218_ rfl
                  have rk226_ : rk K F216_ := rk_fs rk205_ s218_ (fun r k h => (fs_n (by omega) (fs_n (by omega) rfl))) (fs_n (by omega) (fs_n (by omega) rfl))
                  try simp only [e206_, e209_, e211_] at c214_
                  have hP227_ := rkt_p hkt (p := F216_ 344 5) (by omega) (by omega) hgK
                  refine gr_v hm_182 rfl rfl ?_
                  have b228_ : 0 ≤ F216_ 344 9 ∧ F216_ 344 9 ≤ 5 := gi_g g217_ rfl
                  have b229_ : 0 ≤ F216_ 344 10 ∧ F216_ 344 10 ≤ 600 := gi_g g217_ rfl
                  have b230_ : 0 ≤ F216_ 344 5 ∧ F216_ 344 5 ≤ 600 := gi_g g217_ rfl
                  exact Or.inl ⟨F216_, rfl, g217_, g225_, (by omega), (⟨by intro h0_; have hs_ := c183_.1 (by omega); have c214__k := c214_.2 (by omega); rw [sp_q1, if_neg (by omega)]; rw [c16_, pb_r]; rw [sp_new, if_pos (by omega), (ra_fi (by have x_ := (rpn_fs (rpn_fs hl s20_ (fun _ => (fs_n (by omega) (fs_n (by omega) rfl))) (fs_n (by omega) (fs_n (by omega) rfl))) s101_ (fun _ => (fs_n (by omega) rfl)) (fs_n (by omega) rfl)); rw [e148_] at x_; exact x_) c96_ c150_ c151_ c152_), if_pos (by omega), sk, if_pos (by omega), pb_r]; rw [sp1_fl hs_]; congr 2 <;> omega, fun h0_ => by exfalso; omega⟩), (by omega)⟩
                exfalso; omega
              subst hA_
              have g231_ : fs [(344, 344, 5, 5), (344, 344, 9, 10), (344, 344, 17, 17), (350, 352, 0, 100000), (383, 383, 0, 100000)] F F193_ := fs_tr g174_ s195_ rfl
              have rk232_ : rk K F193_ := rk_fs rk175_ s195_ (fun r k h => (fs_n (by omega) (fs_n (by omega) (fs_n (by omega) (fs_n (by omega) rfl))))) (fs_n (by omega) (fs_n (by omega) (fs_n (by omega) (fs_n (by omega) rfl))))
              try simp only [e181_] at c189_
              try simp only [e176_, e177_] at c190_
              have hP233_ := rkt_p hkt (p := F18_ 344 5 + 1) (by omega) (by omega) hgK
              have hP234_ := rkt_p hkt (p := F193_ 344 5) (by omega) (by omega) hgK
              try obtain ⟨l2_, tl2_, ⟨ct1_, ct2_⟩, ⟨ct3_, ct5_⟩, ct4_, ct6_⟩ := c190_
              refine fl_iast (z := F 344 17) (v := z178_) hm_182 rfl sc_351 (by omega) (by omega) (by omega) ?_
              refine ga_aload_n (v := .ref 344) hm_182 rfl rfl rfl ?_
              refine ga_dup hm_182 rfl rfl ?_
              have e235_ : F193_ 344 17 = F 344 17 := (s195_ 344 17 rfl).trans (e177_)
              refine ga_geti (z := F 344 17) hm_182 rfl sc_344 rfl ((fl_u_ne (by omega)).trans (e235_)) ?_
              refine fl_iconst hm_182 rfl ?_
              refine ga_iadd (a := F 344 17) (b := 1) (c := F 344 17 + 1) hm_182 rfl (by omega) ?_
              refine ga_puti (z := F 344 17 + 1) hm_182 rfl sc_344 rfl rfl ?_
              refine ga_aload_n (v := .ref 344) hm_182 rfl rfl rfl ?_
              refine fl_bipush hm_182 rfl rfl ?_
              obtain ⟨F236_, q237_⟩ : ∃ F9_, F9_ = (fl_u (fl_u F193_ 351 (F 344 17).toNat z178_) 344 17 (F 344 17 + 1)) := ⟨_, rfl⟩
              rw [← q237_]
              have g238_ : gi F236_ := by rw [q237_]; exact gi_u (gi_u (g194_) rfl (by omega) (by omega)) rfl (by omega) (by omega)
              have g239_ : fs [(344, 344, 5, 5), (344, 344, 9, 10), (344, 344, 17, 17), (350, 352, 0, 100000), (383, 383, 0, 100000)] F F236_ := by rw [q237_]; exact fs_u (fs_u (g231_) (fs_z (fs_z (fs_z (fs_y (by omega)))))) rfl
              have rk240_ : rk K F236_ := by rw [q237_]; exact rk_u (rk_u (rk232_) (by omega) (by omega)) (by omega) (by omega)
              have e241_ : F236_ 344 5 = F193_ 344 5 := by rw [q237_]; exact (fl_u_ne (by omega)).trans (fl_u_ne (by omega))
              have b242_ : 0 ≤ F193_ 344 5 ∧ F193_ 344 5 ≤ 600 := gi_g g194_ rfl
              refine gVv (nY := 2) (F := 2) (L := 41) (As := [.int (Int32.ofInt 41)]) (b := 344) (rest := []) hm_182 rfl hm_51 rfl rfl (fl_ob sc_344) rfl rfl rfl rfl rfl (by omega) (by omega) (mc_51 hG F236_ X g238_ (K) (41) (1) hgK rk240_ hkt (by omega) (by omega) (by omega)) (fun _ _ h => False.elim h) ?_
              have e244_ : F236_ 344 10 = F193_ 344 10 := by rw [q237_]; exact (fl_u_ne (by omega)).trans (fl_u_ne (by omega))
              have b245_ : 0 ≤ F193_ 344 10 ∧ F193_ 344 10 ≤ 600 := gi_g g194_ rfl
              have e246_ : F236_ 344 9 = F193_ 344 9 := by rw [q237_]; exact (fl_u_ne (by omega)).trans (fl_u_ne (by omega))
              have b247_ : 0 ≤ F193_ 344 9 ∧ F193_ 344 9 ≤ 5 := gi_g g194_ rfl
              rintro A1_ (⟨F251_, hA_, g252_, s253_, c248_, c249_, c250_⟩ | ⟨F257_, hA_, g258_, s259_, c254_, c255_, c256_⟩)
              ·
                subst hA_
                have g260_ : fs [(344, 344, 5, 5), (344, 344, 9, 10), (344, 344, 17, 17), (350, 352, 0, 100000), (383, 383, 0, 100000)] F F251_ := fs_tr g239_ s253_ rfl
                have rk261_ : rk K F251_ := rk_fs rk240_ s253_ (fun r k h => (fs_n (by omega) (fs_n (by omega) rfl))) (fs_n (by omega) (fs_n (by omega) rfl))
                try simp only [e241_, e244_, e246_] at c249_
                have hP262_ := rkt_p hkt (p := F251_ 344 5) (by omega) (by omega) hgK
                refine gr_v hm_182 rfl rfl ?_
                have b263_ : 0 ≤ F251_ 344 9 ∧ F251_ 344 9 ≤ 5 := gi_g g252_ rfl
                have b264_ : 0 ≤ F251_ 344 10 ∧ F251_ 344 10 ≤ 600 := gi_g g252_ rfl
                have b265_ : 0 ≤ F251_ 344 5 ∧ F251_ 344 5 ≤ 600 := gi_g g252_ rfl
                exact Or.inl ⟨F251_, rfl, g252_, g260_, (by omega), (⟨by intro h0_; have hs_ := c249_.1 (by omega); rw [sp_q1, if_neg (by omega)]; rw [c16_, pb_r]; rw [sp_new, if_pos (by omega), (ra_fi (by have x_ := (rpn_fs (rpn_fs hl s20_ (fun _ => (fs_n (by omega) (fs_n (by omega) rfl))) (fs_n (by omega) (fs_n (by omega) rfl))) s101_ (fun _ => (fs_n (by omega) rfl)) (fs_n (by omega) rfl)); rw [e148_] at x_; exact x_) c96_ c150_ c151_ c152_), if_pos (by omega), sk, if_pos (by omega), pb_r]; rw [sp1_ok ct1_, pb_r, hs_]; show Sum.inl _ = _; congr 2 <;> omega, fun h0_ => by exfalso; omega⟩), (by omega)⟩
              subst hA_
              have g266_ : fs [(344, 344, 5, 5), (344, 344, 9, 10), (344, 344, 17, 17), (350, 352, 0, 100000), (383, 383, 0, 100000)] F F257_ := fs_tr g239_ s259_ rfl
              have rk267_ : rk K F257_ := rk_fs rk240_ s259_ (fun r k h => (fs_n (by omega) (fs_n (by omega) rfl))) (fs_n (by omega) (fs_n (by omega) rfl))
              try simp only [e246_] at c254_
              try simp only [e241_] at c255_
              have hP268_ := rkt_p hkt (p := F257_ 344 5) (by omega) (by omega) hgK
              refine gr_v hm_182 rfl rfl ?_
              have b269_ : 0 ≤ F257_ 344 9 ∧ F257_ 344 9 ≤ 5 := gi_g g258_ rfl
              have e270_ : F236_ 344 17 = F 344 17 + 1 := by rw [q237_]; exact fl_u_eq
              have e271_ : F257_ 344 17 = F 344 17 + 1 := (s259_ 344 17 rfl).trans (e270_)
              have b272_ : 0 ≤ F257_ 344 5 ∧ F257_ 344 5 ≤ 600 := gi_g g258_ rfl
              have e273_ : F171_ 350 (F 344 17).toNat = z83_ := by rw [q172_]; exact (fl_u_ne (by omega)).trans (fl_u_eq)
              have e274_ : F193_ 350 (F 344 17).toNat = z83_ := (s195_ 350 (F 344 17).toNat (fs_n (by omega) (fs_n (by omega) (fs_n (by omega) (fs_n (by omega) rfl))))).trans (e273_)
              have e275_ : F236_ 350 (F 344 17).toNat = z83_ := by rw [q237_]; exact (fl_u_ne (by omega)).trans ((fl_u_ne (by omega)).trans (e274_))
              have e276_ : F257_ 350 (F 344 17).toNat = z83_ := (s259_ 350 (F 344 17).toNat (fs_n (by omega) (fs_n (by omega) rfl))).trans (e275_)
              have e277_ : F236_ 351 (F 344 17).toNat = z178_ := by rw [q237_]; exact (fl_u_ne (by omega)).trans (fl_u_eq)
              have e278_ : F257_ 351 (F 344 17).toNat = z178_ := (s259_ 351 (F 344 17).toNat (fs_n (by omega) (fs_n (by omega) rfl))).trans (e277_)
              exact Or.inr (⟨F257_, rfl, g258_, g266_, (by omega), (⟨_, tl2_, by rw [sp_q1, if_neg (by omega), c16_, pb_r, sp_new, if_pos (by omega), (ra_fi (by have x_ := (rpn_fs (rpn_fs hl s20_ (fun _ => (fs_n (by omega) (fs_n (by omega) rfl))) (fs_n (by omega) (fs_n (by omega) rfl))) s101_ (fun _ => (fs_n (by omega) rfl)) (fs_n (by omega) rfl)); rw [e148_] at x_; exact x_) c96_ c150_ c151_ c152_), if_pos (by omega), sk, if_pos (by omega), pb_r, sp1_ok ct1_, pb_r, c255_, pb_r], by rw [e271_]; exact rpn_at hl (fun j hj => (Eq.trans (a := F257_ 350 j) (b := F236_ 350 j) (s259_ 350 j (fs_n (by omega) (fs_n (by omega) rfl))) (Eq.trans (a := F236_ 350 j) (b := F193_ 350 j) (by rw [q237_]; exact (fl_u_ne (by omega)).trans ((fl_u_ne (by omega)))) (Eq.trans (a := F193_ 350 j) (b := F171_ 350 j) (s195_ 350 j (fs_n (by omega) (fs_n (by omega) (fs_n (by omega) (fs_n (by omega) rfl))))) (Eq.trans (a := F171_ 350 j) (b := F99_ 350 j) (by rw [q172_]; exact (fl_u_ne (by omega)).trans ((fl_u_ne (by omega)).trans ((fl_u_ne (by omega))))) (Eq.trans (a := F99_ 350 j) (b := F18_ 350 j) (s101_ 350 j (fs_n (by omega) rfl)) (show F18_ 350 j = F 350 j from (s20_ 350 j (fs_n (by omega) (fs_n (by omega) rfl)))))))))) (e276_) c96_, ⟨rprd_add hps.1 (by omega) (fun j hj => (Eq.trans (a := F257_ 351 j) (b := F236_ 351 j) (s259_ 351 j (fs_n (by omega) (fs_n (by omega) rfl))) (Eq.trans (a := F236_ 351 j) (b := F193_ 351 j) (by rw [q237_]; exact (fl_u_ne (by omega)).trans ((fl_u_ne (by omega)))) (Eq.trans (a := F193_ 351 j) (b := F171_ 351 j) (s195_ 351 j (fs_n (by omega) (fs_n (by omega) (fs_n (by omega) (fs_n (by omega) rfl))))) (Eq.trans (a := F171_ 351 j) (b := F99_ 351 j) (by rw [q172_]; exact (fl_u_ne (by omega)).trans ((fl_u_ne (by omega)).trans ((fl_u_ne (by omega))))) (Eq.trans (a := F99_ 351 j) (b := F18_ 351 j) (s101_ 351 j (fs_n (by omega) rfl)) (show F18_ 351 j = F 351 j from (s20_ 351 j (fs_n (by omega) (fs_n (by omega) rfl)))))))))) (fun j hj => Eq.trans (Eq.trans (a := F257_ 352 j) (b := F236_ 352 j) (s259_ 352 j (fs_n (by omega) (fs_n (by omega) rfl))) (show F236_ 352 j = F193_ 352 j from (by rw [q237_]; exact (fl_u_ne (by omega)).trans ((fl_u_ne (by omega)))))) (Eq.trans (ct6_ j (by omega)) (Eq.trans (a := F171_ 352 j) (b := F99_ 352 j) (by rw [q172_]; exact (fl_u_ne (by omega)).trans ((fl_u_ne (by omega)).trans ((fl_u_ne (by omega))))) (Eq.trans (a := F99_ 352 j) (b := F18_ 352 j) (s101_ 352 j (fs_n (by omega) rfl)) (show F18_ 352 j = F 352 j from (s20_ 352 j (fs_n (by omega) (fs_n (by omega) rfl)))))))) ((e278_).trans ct3_) (rty_cg ct4_ (fun j hj => (Eq.trans (a := F257_ 352 ((2 * F 344 17).toNat + j)) (b := F236_ 352 ((2 * F 344 17).toNat + j)) (s259_ 352 ((2 * F 344 17).toNat + j) (fs_n (by omega) (fs_n (by omega) rfl))) (show F236_ 352 ((2 * F 344 17).toNat + j) = F193_ 352 ((2 * F 344 17).toNat + j) from (by rw [q237_]; exact (fl_u_ne (by omega)).trans ((fl_u_ne (by omega)))))))), by simp only [List.length_append, List.length_singleton]; omega⟩⟩), (by omega)⟩)
            exfalso; omega
          exfalso; omega
        refine ga_aload_n (v := .ref 344) hm_182 rfl rfl rfl ?_
        refine fl_iconst hm_182 rfl ?_
        refine gVv (nY := 2) (F := 0) (L := 0) (As := [.int (Int32.ofInt 2)]) (b := 344) (rest := []) hm_182 rfl hm_54 rfl rfl (fl_ob sc_344) rfl rfl rfl rfl rfl (by omega) (by omega) (mc_54 hG F99_ X g100_ (K) (2) hgK rk138_ hkt (by omega) (by omega)) (fun _ _ h => False.elim h) ?_
        have b280_ : 0 ≤ F99_ 344 10 ∧ F99_ 344 10 ≤ 600 := gi_g g100_ rfl
        rintro A1_ ⟨F284_, hA_, g285_, s286_, c281_, c282_, c283_⟩
        subst hA_
        have g287_ : fs [(344, 344, 5, 5), (344, 344, 9, 10), (344, 344, 17, 17), (350, 352, 0, 100000), (383, 383, 0, 100000)] F F284_ := fs_tr g137_ s286_ rfl
        have rk288_ : rk K F284_ := rk_fs rk138_ s286_ (fun r k h => (fs_n (by omega) rfl)) (fs_n (by omega) rfl)
        try simp only [e139_] at c282_
        try simp only [e139_] at c283_
        refine ga_aload_n (v := .ref 344) hm_182 rfl rfl rfl ?_
        refine gIv (nY := 1) (F := 1) (L := 20) (As := []) (b := 344) (rest := []) hm_182 rfl hm_61 rfl rfl (fl_ob sc_344) rfl rfl rfl rfl rfl (by omega) (by omega) ?_
        intro f289_ l290_ h291_ h292_
        show fl_R xi_ms 61 f289_ l290_ 0 [(0, .ref 344)] [] _ _
        refine ga_aload_n (v := .ref 344) hm_61 rfl rfl rfl ?_
        refine ga_dup hm_61 rfl rfl ?_
        have e293_ : F284_ 344 5 = F18_ 344 5 := (s286_ 344 5 rfl).trans (e139_)
        refine ga_geti (z := F18_ 344 5) hm_61 rfl sc_344 rfl (e293_) ?_
        refine ga_aload_n (v := .ref 344) hm_61 rfl rfl rfl ?_
        refine gIi (nY := 1) (F := 0) (L := 0) (As := []) (b := 344) (rest := [.int (Int32.ofInt (F18_ 344 5)), .ref 344]) hm_61 rfl hm_59 rfl rfl (fl_ob sc_344) rfl rfl rfl rfl rfl (by omega) (by omega) ?_
        intro f294_ l295_ h296_ h297_
        show fl_R xi_ms 59 f294_ l295_ 0 [(0, .ref 344)] [] _ _
        refine ga_aload_n (v := .ref 344) hm_59 rfl rfl rfl ?_
        have b298_ : 0 ≤ F284_ 344 9 ∧ F284_ 344 9 ≤ 5 := gi_g g285_ rfl
        refine ga_geti (z := F284_ 344 9) hm_59 rfl sc_344 rfl (rfl) ?_
        refine fl_if_le (a := F284_ 344 9) hm_59 rfl ⟨by omega, by omega⟩ (fun h299_ => ?_) (fun h300_ => ?_)
        · exfalso; omega
        refine fl_iconst hm_59 rfl ?_
        refine fl_goto hm_59 rfl ?_
        refine gr_i hm_59 rfl rfl (ga_nb (by omega)) ?_
        refine fl_if_eq hm_61 rfl ⟨by omega, by omega⟩ (fun h => absurd h (by omega)) (fun _ => ?_)
        refine fl_iconst hm_61 rfl ?_
        refine fl_goto hm_61 rfl ?_
        refine ga_iadd (a := F18_ 344 5) (b := 0) (c := F18_ 344 5) hm_61 rfl (by omega) ?_
        refine ga_puti (z := F18_ 344 5) hm_61 rfl sc_344 rfl rfl ?_
        refine gr_v hm_61 rfl rfl ?_
        refine ga_aload_n (v := .ref 344) hm_182 rfl rfl rfl ?_
        refine gIi (nY := 1) (F := 0) (L := 0) (As := []) (b := 344) (rest := []) hm_182 rfl hm_59 rfl rfl (fl_ob sc_344) rfl rfl rfl rfl rfl (by omega) (by omega) ?_
        intro f301_ l302_ h303_ h304_
        show fl_R xi_ms 59 f301_ l302_ 0 [(0, .ref 344)] [] _ _
        refine ga_aload_n (v := .ref 344) hm_59 rfl rfl rfl ?_
        refine ga_geti (z := F284_ 344 9) hm_59 rfl sc_344 rfl (fl_u_ne (by omega)) ?_
        refine fl_if_le (a := F284_ 344 9) hm_59 rfl ⟨by omega, by omega⟩ (fun h305_ => ?_) (fun h306_ => ?_)
        · exfalso; omega
        refine fl_iconst hm_59 rfl ?_
        refine fl_goto hm_59 rfl ?_
        refine gr_i hm_59 rfl rfl (ga_nb (by omega)) ?_
        refine fl_if_eq hm_182 rfl ⟨by omega, by omega⟩ (fun h => absurd h (by omega)) (fun _ => ?_)
        obtain ⟨F307_, q308_⟩ : ∃ F9_, F9_ = (fl_u F284_ 344 5 (F18_ 344 5)) := ⟨_, rfl⟩
        rw [← q308_]
        have g309_ : gi F307_ := by rw [q308_]; exact gi_u (g285_) rfl (by omega) (by omega)
        have g310_ : fs [(344, 344, 5, 5), (344, 344, 9, 10), (344, 344, 17, 17), (350, 352, 0, 100000), (383, 383, 0, 100000)] F F307_ := by rw [q308_]; exact fs_u (g287_) rfl
        have rk311_ : rk K F307_ := by rw [q308_]; exact rk_u (rk288_) (by omega) (by omega)
        refine gr_v hm_182 rfl rfl ?_
        have e312_ : F307_ 344 9 = F284_ 344 9 := by rw [q308_]; exact fl_u_ne (by omega)
        have e313_ : F307_ 344 10 = F284_ 344 10 := by rw [q308_]; exact fl_u_ne (by omega)
        have e314_ : F307_ 344 5 = F18_ 344 5 := by rw [q308_]; exact fl_u_eq
        have b315_ : 0 ≤ F284_ 344 10 ∧ F284_ 344 10 ≤ 600 := gi_g g285_ rfl
        exact Or.inl ⟨F307_, rfl, g309_, g310_, (by omega), (⟨by intro h0_; have hs_ := c282_.1 (by omega); rw [sp_q1, if_neg (by omega)]; rw [c16_, pb_r]; rw [sp_new, if_pos (by omega), (ra_fi (by have x_ := (rpn_fs (rpn_fs hl s20_ (fun _ => (fs_n (by omega) (fs_n (by omega) rfl))) (fs_n (by omega) (fs_n (by omega) rfl))) s101_ (fun _ => (fs_n (by omega) rfl)) (fs_n (by omega) rfl)); rw [e148_] at x_; exact x_) c96_ c150_ c151_ c152_), if_neg (by omega)]; show Sum.inl (2, K 4 _) = _; congr 2 <;> omega, fun h0_ => by exfalso; omega⟩), (by omega)⟩
      exfalso; omega
    refine ga_aload_n (v := .ref 344) hm_182 rfl rfl rfl ?_
    refine fl_iconst hm_182 rfl ?_
    have b316_ : 0 ≤ F 344 5 ∧ F 344 5 ≤ 600 := gi_g hgi rfl
    refine gVv (nY := 2) (F := 0) (L := 0) (As := [.int (Int32.ofInt 1)]) (b := 344) (rest := []) hm_182 rfl hm_54 rfl rfl (fl_ob sc_344) rfl rfl rfl rfl rfl (by omega) (by omega) (mc_54 hG F X hgi (K) (1) hgK hrk hkt (by omega) (by omega)) (fun _ _ h => False.elim h) ?_
    have b318_ : 0 ≤ F 344 10 ∧ F 344 10 ≤ 600 := gi_g hgi rfl
    rintro A1_ ⟨F322_, hA_, g323_, s324_, c319_, c320_, c321_⟩
    subst hA_
    have g325_ : fs [(344, 344, 5, 5), (344, 344, 9, 10), (344, 344, 17, 17), (350, 352, 0, 100000), (383, 383, 0, 100000)] F F322_ := fs_tr fs_refl s324_ rfl
    have rk326_ : rk K F322_ := rk_fs hrk s324_ (fun r k h => (fs_n (by omega) rfl)) (fs_n (by omega) rfl)
    refine ga_aload_n (v := .ref 344) hm_182 rfl rfl rfl ?_
    refine fl_bipush hm_182 rfl rfl ?_
    have e327_ : F322_ 344 5 = F 344 5 := (s324_ 344 5 rfl).trans (rfl)
    refine gVv (nY := 2) (F := 2) (L := 41) (As := [.int (Int32.ofInt 40)]) (b := 344) (rest := []) hm_182 rfl hm_51 rfl rfl (fl_ob sc_344) rfl rfl rfl rfl rfl (by omega) (by omega) (mc_51 hG F322_ X g323_ (K) (40) (0) hgK rk326_ hkt (by omega) (by omega) (by omega)) (fun _ _ h => False.elim h) ?_
    have b329_ : 0 ≤ F322_ 344 10 ∧ F322_ 344 10 ≤ 600 := gi_g g323_ rfl
    have b330_ : 0 ≤ F322_ 344 9 ∧ F322_ 344 9 ≤ 5 := gi_g g323_ rfl
    rintro A1_ (⟨F334_, hA_, g335_, s336_, c331_, c332_, c333_⟩ | ⟨F340_, hA_, g341_, s342_, c337_, c338_, c339_⟩)
    ·
      subst hA_
      have g343_ : fs [(344, 344, 5, 5), (344, 344, 9, 10), (344, 344, 17, 17), (350, 352, 0, 100000), (383, 383, 0, 100000)] F F334_ := fs_tr g325_ s336_ rfl
      have rk344_ : rk K F334_ := rk_fs rk326_ s336_ (fun r k h => (fs_n (by omega) (fs_n (by omega) rfl))) (fs_n (by omega) (fs_n (by omega) rfl))
      try simp only [e327_] at c332_
      have hP345_ := rkt_p hkt (p := F334_ 344 5) (by omega) (by omega) hgK
      refine ga_aload_n (v := .ref 344) hm_182 rfl rfl rfl ?_
      have b346_ : 0 ≤ F334_ 344 5 ∧ F334_ 344 5 ≤ 600 := gi_g g335_ rfl
      refine gVl (nY := 3) (F := 2) (L := 46) (As := []) (b := 344) (rest := []) hm_182 rfl hm_58 rfl rfl (fl_ob sc_344) rfl rfl rfl rfl rfl (by omega) (by omega) (mc_58 hG F334_ X g335_ (K) hgK rk344_ hkt (by omega)) (fun _ _ h => False.elim h) ?_
      have b348_ : 0 ≤ F334_ 344 10 ∧ F334_ 344 10 ≤ 600 := gi_g g335_ rfl
      have b349_ : 0 ≤ F334_ 344 9 ∧ F334_ 344 9 ≤ 5 := gi_g g335_ rfl
      rintro z347_ A1_ (⟨F354_, hA_, g355_, s356_, c350_, c351_, c352_, c353_⟩ | ⟨F363_, hA_, g364_, s365_, c357_, c358_, c359_, c360_, c361_, c362_⟩)
      ·
        subst hA_
        have g366_ : fs [(344, 344, 5, 5), (344, 344, 9, 10), (344, 344, 17, 17), (350, 352, 0, 100000), (383, 383, 0, 100000)] F F354_ := fs_tr g343_ s356_ rfl
        have rk367_ : rk K F354_ := rk_fs rk344_ s356_ (fun r k h => (fs_n (by omega) rfl)) (fs_n (by omega) rfl)
        have e368_ : F354_ 344 5 = F334_ 344 5 := (s356_ 344 5 rfl).trans (rfl)
        refine ga_lstore_n (lv2 := [(1, .long (Int64.ofInt z347_)), (0, .ref 344)]) hm_182 rfl (Nat.le_of_ble_eq_true rfl) rfl ?_
        refine ga_aload_n (v := .ref 344) hm_182 rfl rfl rfl ?_
        refine gIi (nY := 1) (F := 0) (L := 0) (As := []) (b := 344) (rest := []) hm_182 rfl hm_59 rfl rfl (fl_ob sc_344) rfl rfl rfl rfl rfl (by omega) (by omega) ?_
        intro f369_ l370_ h371_ h372_
        show fl_R xi_ms 59 f369_ l370_ 0 [(0, .ref 344)] [] _ _
        refine ga_aload_n (v := .ref 344) hm_59 rfl rfl rfl ?_
        have b373_ : 0 ≤ F354_ 344 9 ∧ F354_ 344 9 ≤ 5 := gi_g g355_ rfl
        refine ga_geti (z := F354_ 344 9) hm_59 rfl sc_344 rfl (rfl) ?_
        refine fl_if_le (a := F354_ 344 9) hm_59 rfl ⟨by omega, by omega⟩ (fun h374_ => ?_) (fun h375_ => ?_)
        · exfalso; omega
        refine fl_iconst hm_59 rfl ?_
        refine fl_goto hm_59 rfl ?_
        refine gr_i hm_59 rfl rfl (ga_nb (by omega)) ?_
        refine fl_if_ne hm_182 rfl ⟨by omega, by omega⟩ (fun _ => ?_) (fun h => absurd (by omega) h)
        refine ga_aload_n (v := .ref 344) hm_182 rfl rfl rfl ?_
        refine gIv (nY := 1) (F := 1) (L := 20) (As := []) (b := 344) (rest := []) hm_182 rfl hm_61 rfl rfl (fl_ob sc_344) rfl rfl rfl rfl rfl (by omega) (by omega) ?_
        intro f376_ l377_ h378_ h379_
        show fl_R xi_ms 61 f376_ l377_ 0 [(0, .ref 344)] [] _ _
        refine ga_aload_n (v := .ref 344) hm_61 rfl rfl rfl ?_
        refine ga_dup hm_61 rfl rfl ?_
        refine ga_geti (z := F334_ 344 5) hm_61 rfl sc_344 rfl (e368_) ?_
        refine ga_aload_n (v := .ref 344) hm_61 rfl rfl rfl ?_
        refine gIi (nY := 1) (F := 0) (L := 0) (As := []) (b := 344) (rest := [.int (Int32.ofInt (F334_ 344 5)), .ref 344]) hm_61 rfl hm_59 rfl rfl (fl_ob sc_344) rfl rfl rfl rfl rfl (by omega) (by omega) ?_
        intro f380_ l381_ h382_ h383_
        show fl_R xi_ms 59 f380_ l381_ 0 [(0, .ref 344)] [] _ _
        refine ga_aload_n (v := .ref 344) hm_59 rfl rfl rfl ?_
        refine ga_geti (z := F354_ 344 9) hm_59 rfl sc_344 rfl (rfl) ?_
        refine fl_if_le (a := F354_ 344 9) hm_59 rfl ⟨by omega, by omega⟩ (fun h384_ => ?_) (fun h385_ => ?_)
        · exfalso; omega
        refine fl_iconst hm_59 rfl ?_
        refine fl_goto hm_59 rfl ?_
        refine gr_i hm_59 rfl rfl (ga_nb (by omega)) ?_
        refine fl_if_eq hm_61 rfl ⟨by omega, by omega⟩ (fun h => absurd h (by omega)) (fun _ => ?_)
        refine fl_iconst hm_61 rfl ?_
        refine fl_goto hm_61 rfl ?_
        refine ga_iadd (a := F334_ 344 5) (b := 0) (c := F334_ 344 5) hm_61 rfl (by omega) ?_
        refine ga_puti (z := F334_ 344 5) hm_61 rfl sc_344 rfl rfl ?_
        refine gr_v hm_61 rfl rfl ?_
        refine ga_aload_n (v := .ref 344) hm_182 rfl rfl rfl ?_
        refine gIi (nY := 1) (F := 0) (L := 0) (As := []) (b := 344) (rest := []) hm_182 rfl hm_59 rfl rfl (fl_ob sc_344) rfl rfl rfl rfl rfl (by omega) (by omega) ?_
        intro f386_ l387_ h388_ h389_
        show fl_R xi_ms 59 f386_ l387_ 0 [(0, .ref 344)] [] _ _
        refine ga_aload_n (v := .ref 344) hm_59 rfl rfl rfl ?_
        refine ga_geti (z := F354_ 344 9) hm_59 rfl sc_344 rfl (fl_u_ne (by omega)) ?_
        refine fl_if_le (a := F354_ 344 9) hm_59 rfl ⟨by omega, by omega⟩ (fun h390_ => ?_) (fun h391_ => ?_)
        · exfalso; omega
        refine fl_iconst hm_59 rfl ?_
        refine fl_goto hm_59 rfl ?_
        refine gr_i hm_59 rfl rfl (ga_nb (by omega)) ?_
        refine fl_if_eq hm_182 rfl ⟨by omega, by omega⟩ (fun h => absurd h (by omega)) (fun _ => ?_)
        obtain ⟨F392_, q393_⟩ : ∃ F9_, F9_ = (fl_u F354_ 344 5 (F334_ 344 5)) := ⟨_, rfl⟩
        rw [← q393_]
        have g394_ : gi F392_ := by rw [q393_]; exact gi_u (g355_) rfl (by omega) (by omega)
        have g395_ : fs [(344, 344, 5, 5), (344, 344, 9, 10), (344, 344, 17, 17), (350, 352, 0, 100000), (383, 383, 0, 100000)] F F392_ := by rw [q393_]; exact fs_u (g366_) rfl
        have rk396_ : rk K F392_ := by rw [q393_]; exact rk_u (rk367_) (by omega) (by omega)
        refine gr_v hm_182 rfl rfl ?_
        have e397_ : F392_ 344 9 = F354_ 344 9 := by rw [q393_]; exact fl_u_ne (by omega)
        have e398_ : F392_ 344 10 = F354_ 344 10 := by rw [q393_]; exact fl_u_ne (by omega)
        have e399_ : F392_ 344 5 = F334_ 344 5 := by rw [q393_]; exact fl_u_eq
        have b400_ : 0 ≤ F354_ 344 10 ∧ F354_ 344 10 ≤ 600 := gi_g g355_ rfl
        exact Or.inl ⟨F392_, rfl, g394_, g395_, (by omega), (⟨by intro h0_; have hs_ := c320_.1 (by omega); have c332__k := c332_.2 (by omega); have c351__k := c351_.2 (by omega); rw [sp_q1, if_pos (by omega), pf]; congr 2 <;> omega, fun h0_ => by exfalso; omega⟩), (by omega)⟩
      exfalso; omega
    exfalso; omega
  refine ga_aload_n (v := .ref 344) hm_182 rfl rfl rfl ?_
  have b401_ : 0 ≤ F 344 17 ∧ F 344 17 ≤ 6 := gi_g hgi rfl
  refine ga_geti (z := F 344 17) hm_182 rfl sc_344 rfl (rfl) ?_
  refine fl_bipush hm_182 rfl rfl ?_
  refine fx_icmp_ne (a := F 344 17) (b := 6) hm_182 rfl ⟨by omega, by omega⟩ ⟨by omega, by omega⟩ (fun h402_ => ?_) (fun h403_ => ?_)
  ·
    refine ga_aload_n (v := .ref 344) hm_182 rfl rfl rfl ?_
    refine fl_bipush hm_182 rfl rfl ?_
    have b404_ : 0 ≤ F 344 5 ∧ F 344 5 ≤ 600 := gi_g hgi rfl
    refine gVv (nY := 2) (F := 2) (L := 41) (As := [.int (Int32.ofInt 40)]) (b := 344) (rest := []) hm_182 rfl hm_51 rfl rfl (fl_ob sc_344) rfl rfl rfl rfl rfl (by omega) (by omega) (mc_51 hG F X hgi (K) (40) (0) hgK hrk hkt (by omega) (by omega) (by omega)) (fun _ _ h => False.elim h) ?_
    have b406_ : 0 ≤ F 344 10 ∧ F 344 10 ≤ 600 := gi_g hgi rfl
    rintro A1_ (⟨F410_, hA_, g411_, s412_, c407_, c408_, c409_⟩ | ⟨F416_, hA_, g417_, s418_, c413_, c414_, c415_⟩)
    ·
      subst hA_
      have g419_ : fs [(344, 344, 5, 5), (344, 344, 9, 10), (344, 344, 17, 17), (350, 352, 0, 100000), (383, 383, 0, 100000)] F F410_ := fs_tr fs_refl s412_ rfl
      have rk420_ : rk K F410_ := rk_fs hrk s412_ (fun r k h => (fs_n (by omega) (fs_n (by omega) rfl))) (fs_n (by omega) (fs_n (by omega) rfl))
      have hP421_ := rkt_p hkt (p := F410_ 344 5) (by omega) (by omega) hgK
      refine ga_aload_n (v := .ref 344) hm_182 rfl rfl rfl ?_
      have b422_ : 0 ≤ F410_ 344 5 ∧ F410_ 344 5 ≤ 600 := gi_g g411_ rfl
      refine gVl (nY := 3) (F := 2) (L := 46) (As := []) (b := 344) (rest := []) hm_182 rfl hm_58 rfl rfl (fl_ob sc_344) rfl rfl rfl rfl rfl (by omega) (by omega) (mc_58 hG F410_ X g411_ (K) hgK rk420_ hkt (by omega)) (fun _ _ h => False.elim h) ?_
      have b424_ : 0 ≤ F410_ 344 10 ∧ F410_ 344 10 ≤ 600 := gi_g g411_ rfl
      have b425_ : 0 ≤ F410_ 344 9 ∧ F410_ 344 9 ≤ 5 := gi_g g411_ rfl
      rintro z423_ A1_ (⟨F430_, hA_, g431_, s432_, c426_, c427_, c428_, c429_⟩ | ⟨F439_, hA_, g440_, s441_, c433_, c434_, c435_, c436_, c437_, c438_⟩)
      ·
        subst hA_
        have g442_ : fs [(344, 344, 5, 5), (344, 344, 9, 10), (344, 344, 17, 17), (350, 352, 0, 100000), (383, 383, 0, 100000)] F F430_ := fs_tr g419_ s432_ rfl
        have rk443_ : rk K F430_ := rk_fs rk420_ s432_ (fun r k h => (fs_n (by omega) rfl)) (fs_n (by omega) rfl)
        have e444_ : F430_ 344 5 = F410_ 344 5 := (s432_ 344 5 rfl).trans (rfl)
        refine ga_lstore_n (lv2 := [(1, .long (Int64.ofInt z423_)), (0, .ref 344)]) hm_182 rfl (Nat.le_of_ble_eq_true rfl) rfl ?_
        refine ga_aload_n (v := .ref 344) hm_182 rfl rfl rfl ?_
        refine gIi (nY := 1) (F := 0) (L := 0) (As := []) (b := 344) (rest := []) hm_182 rfl hm_59 rfl rfl (fl_ob sc_344) rfl rfl rfl rfl rfl (by omega) (by omega) ?_
        intro f445_ l446_ h447_ h448_
        show fl_R xi_ms 59 f445_ l446_ 0 [(0, .ref 344)] [] _ _
        refine ga_aload_n (v := .ref 344) hm_59 rfl rfl rfl ?_
        have b449_ : 0 ≤ F430_ 344 9 ∧ F430_ 344 9 ≤ 5 := gi_g g431_ rfl
        refine ga_geti (z := F430_ 344 9) hm_59 rfl sc_344 rfl (rfl) ?_
        refine fl_if_le (a := F430_ 344 9) hm_59 rfl ⟨by omega, by omega⟩ (fun h450_ => ?_) (fun h451_ => ?_)
        · exfalso; omega
        refine fl_iconst hm_59 rfl ?_
        refine fl_goto hm_59 rfl ?_
        refine gr_i hm_59 rfl rfl (ga_nb (by omega)) ?_
        refine fl_if_ne hm_182 rfl ⟨by omega, by omega⟩ (fun _ => ?_) (fun h => absurd (by omega) h)
        refine ga_aload_n (v := .ref 344) hm_182 rfl rfl rfl ?_
        refine gIv (nY := 1) (F := 1) (L := 20) (As := []) (b := 344) (rest := []) hm_182 rfl hm_61 rfl rfl (fl_ob sc_344) rfl rfl rfl rfl rfl (by omega) (by omega) ?_
        intro f452_ l453_ h454_ h455_
        show fl_R xi_ms 61 f452_ l453_ 0 [(0, .ref 344)] [] _ _
        refine ga_aload_n (v := .ref 344) hm_61 rfl rfl rfl ?_
        refine ga_dup hm_61 rfl rfl ?_
        refine ga_geti (z := F410_ 344 5) hm_61 rfl sc_344 rfl (e444_) ?_
        refine ga_aload_n (v := .ref 344) hm_61 rfl rfl rfl ?_
        refine gIi (nY := 1) (F := 0) (L := 0) (As := []) (b := 344) (rest := [.int (Int32.ofInt (F410_ 344 5)), .ref 344]) hm_61 rfl hm_59 rfl rfl (fl_ob sc_344) rfl rfl rfl rfl rfl (by omega) (by omega) ?_
        intro f456_ l457_ h458_ h459_
        show fl_R xi_ms 59 f456_ l457_ 0 [(0, .ref 344)] [] _ _
        refine ga_aload_n (v := .ref 344) hm_59 rfl rfl rfl ?_
        refine ga_geti (z := F430_ 344 9) hm_59 rfl sc_344 rfl (rfl) ?_
        refine fl_if_le (a := F430_ 344 9) hm_59 rfl ⟨by omega, by omega⟩ (fun h460_ => ?_) (fun h461_ => ?_)
        · exfalso; omega
        refine fl_iconst hm_59 rfl ?_
        refine fl_goto hm_59 rfl ?_
        refine gr_i hm_59 rfl rfl (ga_nb (by omega)) ?_
        refine fl_if_eq hm_61 rfl ⟨by omega, by omega⟩ (fun h => absurd h (by omega)) (fun _ => ?_)
        refine fl_iconst hm_61 rfl ?_
        refine fl_goto hm_61 rfl ?_
        refine ga_iadd (a := F410_ 344 5) (b := 0) (c := F410_ 344 5) hm_61 rfl (by omega) ?_
        refine ga_puti (z := F410_ 344 5) hm_61 rfl sc_344 rfl rfl ?_
        refine gr_v hm_61 rfl rfl ?_
        refine ga_aload_n (v := .ref 344) hm_182 rfl rfl rfl ?_
        refine gIi (nY := 1) (F := 0) (L := 0) (As := []) (b := 344) (rest := []) hm_182 rfl hm_59 rfl rfl (fl_ob sc_344) rfl rfl rfl rfl rfl (by omega) (by omega) ?_
        intro f462_ l463_ h464_ h465_
        show fl_R xi_ms 59 f462_ l463_ 0 [(0, .ref 344)] [] _ _
        refine ga_aload_n (v := .ref 344) hm_59 rfl rfl rfl ?_
        refine ga_geti (z := F430_ 344 9) hm_59 rfl sc_344 rfl (fl_u_ne (by omega)) ?_
        refine fl_if_le (a := F430_ 344 9) hm_59 rfl ⟨by omega, by omega⟩ (fun h466_ => ?_) (fun h467_ => ?_)
        · exfalso; omega
        refine fl_iconst hm_59 rfl ?_
        refine fl_goto hm_59 rfl ?_
        refine gr_i hm_59 rfl rfl (ga_nb (by omega)) ?_
        refine fl_if_eq hm_182 rfl ⟨by omega, by omega⟩ (fun h => absurd h (by omega)) (fun _ => ?_)
        obtain ⟨F468_, q469_⟩ : ∃ F9_, F9_ = (fl_u F430_ 344 5 (F410_ 344 5)) := ⟨_, rfl⟩
        rw [← q469_]
        have g470_ : gi F468_ := by rw [q469_]; exact gi_u (g431_) rfl (by omega) (by omega)
        have g471_ : fs [(344, 344, 5, 5), (344, 344, 9, 10), (344, 344, 17, 17), (350, 352, 0, 100000), (383, 383, 0, 100000)] F F468_ := by rw [q469_]; exact fs_u (g442_) rfl
        have rk472_ : rk K F468_ := by rw [q469_]; exact rk_u (rk443_) (by omega) (by omega)
        refine gr_v hm_182 rfl rfl ?_
        have e473_ : F468_ 344 9 = F430_ 344 9 := by rw [q469_]; exact fl_u_ne (by omega)
        have e474_ : F468_ 344 10 = F430_ 344 10 := by rw [q469_]; exact fl_u_ne (by omega)
        have e475_ : F468_ 344 5 = F410_ 344 5 := by rw [q469_]; exact fl_u_eq
        have b476_ : 0 ≤ F430_ 344 10 ∧ F430_ 344 10 ≤ 600 := gi_g g431_ rfl
        exact Or.inl ⟨F468_, rfl, g470_, g471_, (by omega), (⟨by intro h0_; have hs_ := c408_.1 (by omega); have c427__k := c427_.2 (by omega); rw [sp_q1, if_neg (by omega)]; rw [hs_]; show Sum.inl _ = _; congr 2 <;> omega, fun h0_ => by have c427__k := c427_.2 (by omega); have hs_ := c408_.2 (by omega); omega⟩), (by omega)⟩
      exfalso; omega
    exfalso; omega
  refine ga_aload_n (v := .ref 344) hm_182 rfl rfl rfl ?_
  refine fl_iconst hm_182 rfl ?_
  have b477_ : 0 ≤ F 344 5 ∧ F 344 5 ≤ 600 := gi_g hgi rfl
  refine gVv (nY := 2) (F := 0) (L := 0) (As := [.int (Int32.ofInt 1)]) (b := 344) (rest := []) hm_182 rfl hm_54 rfl rfl (fl_ob sc_344) rfl rfl rfl rfl rfl (by omega) (by omega) (mc_54 hG F X hgi (K) (1) hgK hrk hkt (by omega) (by omega)) (fun _ _ h => False.elim h) ?_
  have b479_ : 0 ≤ F 344 10 ∧ F 344 10 ≤ 600 := gi_g hgi rfl
  rintro A1_ ⟨F483_, hA_, g484_, s485_, c480_, c481_, c482_⟩
  subst hA_
  have g486_ : fs [(344, 344, 5, 5), (344, 344, 9, 10), (344, 344, 17, 17), (350, 352, 0, 100000), (383, 383, 0, 100000)] F F483_ := fs_tr fs_refl s485_ rfl
  have rk487_ : rk K F483_ := rk_fs hrk s485_ (fun r k h => (fs_n (by omega) rfl)) (fs_n (by omega) rfl)
  refine ga_aload_n (v := .ref 344) hm_182 rfl rfl rfl ?_
  refine fl_bipush hm_182 rfl rfl ?_
  have e488_ : F483_ 344 5 = F 344 5 := (s485_ 344 5 rfl).trans (rfl)
  refine gVv (nY := 2) (F := 2) (L := 41) (As := [.int (Int32.ofInt 40)]) (b := 344) (rest := []) hm_182 rfl hm_51 rfl rfl (fl_ob sc_344) rfl rfl rfl rfl rfl (by omega) (by omega) (mc_51 hG F483_ X g484_ (K) (40) (0) hgK rk487_ hkt (by omega) (by omega) (by omega)) (fun _ _ h => False.elim h) ?_
  have b490_ : 0 ≤ F483_ 344 10 ∧ F483_ 344 10 ≤ 600 := gi_g g484_ rfl
  have b491_ : 0 ≤ F483_ 344 9 ∧ F483_ 344 9 ≤ 5 := gi_g g484_ rfl
  rintro A1_ (⟨F495_, hA_, g496_, s497_, c492_, c493_, c494_⟩ | ⟨F501_, hA_, g502_, s503_, c498_, c499_, c500_⟩)
  ·
    subst hA_
    have g504_ : fs [(344, 344, 5, 5), (344, 344, 9, 10), (344, 344, 17, 17), (350, 352, 0, 100000), (383, 383, 0, 100000)] F F495_ := fs_tr g486_ s497_ rfl
    have rk505_ : rk K F495_ := rk_fs rk487_ s497_ (fun r k h => (fs_n (by omega) (fs_n (by omega) rfl))) (fs_n (by omega) (fs_n (by omega) rfl))
    try simp only [e488_] at c493_
    have hP506_ := rkt_p hkt (p := F495_ 344 5) (by omega) (by omega) hgK
    refine ga_aload_n (v := .ref 344) hm_182 rfl rfl rfl ?_
    have b507_ : 0 ≤ F495_ 344 5 ∧ F495_ 344 5 ≤ 600 := gi_g g496_ rfl
    refine gVl (nY := 3) (F := 2) (L := 46) (As := []) (b := 344) (rest := []) hm_182 rfl hm_58 rfl rfl (fl_ob sc_344) rfl rfl rfl rfl rfl (by omega) (by omega) (mc_58 hG F495_ X g496_ (K) hgK rk505_ hkt (by omega)) (fun _ _ h => False.elim h) ?_
    have b509_ : 0 ≤ F495_ 344 10 ∧ F495_ 344 10 ≤ 600 := gi_g g496_ rfl
    have b510_ : 0 ≤ F495_ 344 9 ∧ F495_ 344 9 ≤ 5 := gi_g g496_ rfl
    rintro z508_ A1_ (⟨F515_, hA_, g516_, s517_, c511_, c512_, c513_, c514_⟩ | ⟨F524_, hA_, g525_, s526_, c518_, c519_, c520_, c521_, c522_, c523_⟩)
    ·
      subst hA_
      have g527_ : fs [(344, 344, 5, 5), (344, 344, 9, 10), (344, 344, 17, 17), (350, 352, 0, 100000), (383, 383, 0, 100000)] F F515_ := fs_tr g504_ s517_ rfl
      have rk528_ : rk K F515_ := rk_fs rk505_ s517_ (fun r k h => (fs_n (by omega) rfl)) (fs_n (by omega) rfl)
      have e529_ : F515_ 344 5 = F495_ 344 5 := (s517_ 344 5 rfl).trans (rfl)
      refine ga_lstore_n (lv2 := [(1, .long (Int64.ofInt z508_)), (0, .ref 344)]) hm_182 rfl (Nat.le_of_ble_eq_true rfl) rfl ?_
      refine ga_aload_n (v := .ref 344) hm_182 rfl rfl rfl ?_
      refine gIi (nY := 1) (F := 0) (L := 0) (As := []) (b := 344) (rest := []) hm_182 rfl hm_59 rfl rfl (fl_ob sc_344) rfl rfl rfl rfl rfl (by omega) (by omega) ?_
      intro f530_ l531_ h532_ h533_
      show fl_R xi_ms 59 f530_ l531_ 0 [(0, .ref 344)] [] _ _
      refine ga_aload_n (v := .ref 344) hm_59 rfl rfl rfl ?_
      have b534_ : 0 ≤ F515_ 344 9 ∧ F515_ 344 9 ≤ 5 := gi_g g516_ rfl
      refine ga_geti (z := F515_ 344 9) hm_59 rfl sc_344 rfl (rfl) ?_
      refine fl_if_le (a := F515_ 344 9) hm_59 rfl ⟨by omega, by omega⟩ (fun h535_ => ?_) (fun h536_ => ?_)
      · exfalso; omega
      refine fl_iconst hm_59 rfl ?_
      refine fl_goto hm_59 rfl ?_
      refine gr_i hm_59 rfl rfl (ga_nb (by omega)) ?_
      refine fl_if_ne hm_182 rfl ⟨by omega, by omega⟩ (fun _ => ?_) (fun h => absurd (by omega) h)
      refine ga_aload_n (v := .ref 344) hm_182 rfl rfl rfl ?_
      refine gIv (nY := 1) (F := 1) (L := 20) (As := []) (b := 344) (rest := []) hm_182 rfl hm_61 rfl rfl (fl_ob sc_344) rfl rfl rfl rfl rfl (by omega) (by omega) ?_
      intro f537_ l538_ h539_ h540_
      show fl_R xi_ms 61 f537_ l538_ 0 [(0, .ref 344)] [] _ _
      refine ga_aload_n (v := .ref 344) hm_61 rfl rfl rfl ?_
      refine ga_dup hm_61 rfl rfl ?_
      refine ga_geti (z := F495_ 344 5) hm_61 rfl sc_344 rfl (e529_) ?_
      refine ga_aload_n (v := .ref 344) hm_61 rfl rfl rfl ?_
      refine gIi (nY := 1) (F := 0) (L := 0) (As := []) (b := 344) (rest := [.int (Int32.ofInt (F495_ 344 5)), .ref 344]) hm_61 rfl hm_59 rfl rfl (fl_ob sc_344) rfl rfl rfl rfl rfl (by omega) (by omega) ?_
      intro f541_ l542_ h543_ h544_
      show fl_R xi_ms 59 f541_ l542_ 0 [(0, .ref 344)] [] _ _
      refine ga_aload_n (v := .ref 344) hm_59 rfl rfl rfl ?_
      refine ga_geti (z := F515_ 344 9) hm_59 rfl sc_344 rfl (rfl) ?_
      refine fl_if_le (a := F515_ 344 9) hm_59 rfl ⟨by omega, by omega⟩ (fun h545_ => ?_) (fun h546_ => ?_)
      · exfalso; omega
      refine fl_iconst hm_59 rfl ?_
      refine fl_goto hm_59 rfl ?_
      refine gr_i hm_59 rfl rfl (ga_nb (by omega)) ?_
      refine fl_if_eq hm_61 rfl ⟨by omega, by omega⟩ (fun h => absurd h (by omega)) (fun _ => ?_)
      refine fl_iconst hm_61 rfl ?_
      refine fl_goto hm_61 rfl ?_
      refine ga_iadd (a := F495_ 344 5) (b := 0) (c := F495_ 344 5) hm_61 rfl (by omega) ?_
      refine ga_puti (z := F495_ 344 5) hm_61 rfl sc_344 rfl rfl ?_
      refine gr_v hm_61 rfl rfl ?_
      refine ga_aload_n (v := .ref 344) hm_182 rfl rfl rfl ?_
      refine gIi (nY := 1) (F := 0) (L := 0) (As := []) (b := 344) (rest := []) hm_182 rfl hm_59 rfl rfl (fl_ob sc_344) rfl rfl rfl rfl rfl (by omega) (by omega) ?_
      intro f547_ l548_ h549_ h550_
      show fl_R xi_ms 59 f547_ l548_ 0 [(0, .ref 344)] [] _ _
      refine ga_aload_n (v := .ref 344) hm_59 rfl rfl rfl ?_
      refine ga_geti (z := F515_ 344 9) hm_59 rfl sc_344 rfl (fl_u_ne (by omega)) ?_
      refine fl_if_le (a := F515_ 344 9) hm_59 rfl ⟨by omega, by omega⟩ (fun h551_ => ?_) (fun h552_ => ?_)
      · exfalso; omega
      refine fl_iconst hm_59 rfl ?_
      refine fl_goto hm_59 rfl ?_
      refine gr_i hm_59 rfl rfl (ga_nb (by omega)) ?_
      refine fl_if_eq hm_182 rfl ⟨by omega, by omega⟩ (fun h => absurd h (by omega)) (fun _ => ?_)
      obtain ⟨F553_, q554_⟩ : ∃ F9_, F9_ = (fl_u F515_ 344 5 (F495_ 344 5)) := ⟨_, rfl⟩
      rw [← q554_]
      have g555_ : gi F553_ := by rw [q554_]; exact gi_u (g516_) rfl (by omega) (by omega)
      have g556_ : fs [(344, 344, 5, 5), (344, 344, 9, 10), (344, 344, 17, 17), (350, 352, 0, 100000), (383, 383, 0, 100000)] F F553_ := by rw [q554_]; exact fs_u (g527_) rfl
      have rk557_ : rk K F553_ := by rw [q554_]; exact rk_u (rk528_) (by omega) (by omega)
      refine gr_v hm_182 rfl rfl ?_
      have e558_ : F553_ 344 9 = F515_ 344 9 := by rw [q554_]; exact fl_u_ne (by omega)
      have e559_ : F553_ 344 10 = F515_ 344 10 := by rw [q554_]; exact fl_u_ne (by omega)
      have e560_ : F553_ 344 5 = F495_ 344 5 := by rw [q554_]; exact fl_u_eq
      have b561_ : 0 ≤ F515_ 344 10 ∧ F515_ 344 10 ≤ 600 := gi_g g516_ rfl
      exact Or.inl ⟨F553_, rfl, g555_, g556_, (by omega), (⟨by intro h0_; have hs_ := c481_.1 (by omega); have c493__k := c493_.2 (by omega); have c512__k := c512_.2 (by omega); rw [sp_q1, if_pos (by omega), pf]; congr 2 <;> omega, fun h0_ => by have c493__k := c493_.2 (by omega); have c512__k := c512_.2 (by omega); have hs_ := c481_.2 (by omega); omega⟩), (by omega)⟩
    exfalso; omega
  exfalso; omega

def sp_q1 (K : fl_N) (ts l : List Int) (p : Int) : PR (Int × List Int × List Int) := if (l.length : Int) = 6 then pf K p 1 else pb (sp_kind K 0 p) fun p => pb (sp_new K 2 l p) fun q => pb (sp_params K ts 2 [] [] q.1) fun r => pb (sp_kind K 1 r.1) fun p => .inr (p, q.2, r.2.2)
theorem sp1_ok {K : fl_N} {ts l tl : List Int} {m : Nat} {p : Int} {q : Int × List Int × List Int} (h : sp_p1 K ts m l tl p = .inr q) : sp_params K ts m l tl p = .inr q := by
  unfold sp_p1 at h
  obtain ⟨a, h1, h2⟩ := pb_ok h
  split at h2
  · rw [h1, Sum.inr.inj h2]
  · cases h2
theorem sp1_fl {K : fl_N} {ts l tl : List Int} {m : Nat} {p : Int} {e : Int × Int} {α : Type} {f : Int × List Int × List Int → Int → PR α} (h : sp_p1 K ts m l tl p = .inl e) : pb (sp_params K ts m l tl p) (fun r => pb (sp_kind K 1 r.1) (f r)) = .inl e := by
  unfold sp_p1 at h
  cases hx : sp_params K ts m l tl p with
  | inl e2 =>
    rw [hx] at h
    have h9 : e2 = e := Sum.inl.inj h
    rw [h9]
    rfl
  | inr a =>
    rw [hx, pb_r] at h
    split at h
    · cases h
    · rename_i hk
      rw [pb_r, sp_kind, if_neg hk]
      have h9 := Sum.inl.inj h
      show Sum.inl (1, K 4 _) = _
      rw [h9]
/-- the predicates' sizes and types, as the reference keeps them -/
def rprd (F : fl_N) (ps : List (List Int)) : Prop := ∀ i : Nat, i < ps.length → F 351 i = ((ps.getD i []).length : Int) ∧ rty (F 352) (2 * i) (ps.getD i []) ∧ (ps.getD i []).length ≤ 2
theorem rty_cg {g g' : Nat → Int} {a b : Nat} {tl : List Int} (h : rty g a tl) (hg : ∀ j : Nat, j < tl.length → g' (a + j) = g (a + j)) (hb : a = b := by omega) : rty g' b tl := by
  subst hb
  intro j x hx
  rw [hg j (List.getElem?_eq_some_iff.mp hx).1]
  exact h j x hx
theorem rprd_add {F F' : fl_N} {ps : List (List Int)} {t : List Int} {P : Int} (h : rprd F ps) (hP : P = (ps.length : Int) ∧ t.length ≤ 2) (h1 : ∀ j : Nat, (j : Int) < P → F' 351 j = F 351 j) (h2 : ∀ j : Nat, (j : Int) < 2 * P → F' 352 j = F 352 j) (h3 : F' 351 P.toNat = (t.length : Int)) (h4 : rty (F' 352) (2 * P).toNat t) : rprd F' (ps ++ [t]) := by
  intro i hi
  rw [List.length_append, List.length_singleton] at hi
  by_cases e : i < ps.length
  · have e3 : (ps ++ [t]).getD i [] = ps.getD i [] := by
      rw [List.getD_eq_getElem?_getD, List.getD_eq_getElem?_getD, List.getElem?_append_left e]
    rw [e3]
    obtain ⟨a, b, c⟩ := h i e
    refine ⟨by rw [h1 i (by omega)]; exact a, rty_cg b (fun j hj => h2 _ (by omega)) rfl, c⟩
  · have e2 : i = ps.length := by omega
    subst e2
    have e3 : (ps ++ [t]).getD ps.length [] = t := by simp [List.getD]
    rw [e3]
    refine ⟨by rw [← h3]; congr 1; omega, by rw [show 2 * ps.length = (2 * P).toNat by omega]; exact h4, hP.2⟩

/- CheapPlannerModel.readPredicate -/
abbrev pq_182 (G : Nat → Nat → Option Nat) (F : fl_N) (X : xi_H) (K : fl_N) (ts l : List Int) (ps : List (List Int)) : Outcome → xi_H → Prop := gqv (fun A => (∃ F' : fl_N, fl_H sh_T G F' ++ X = A ∧ gi F' ∧ fs [(344, 344, 5, 5), (344, 344, 9, 10), (344, 344, 17, 17), (350, 352, 0, 100000), (383, 383, 0, 100000)] F F' ∧ (¬ F' 344 9 = 0) ∧ ((F 344 9 = 0 → sp_q1 K ts l (F 344 5) = .inl (F' 344 9, F' 344 10)) ∧ (¬ F 344 9 = 0 → F' 344 9 = F 344 9 ∧ F' 344 10 = F 344 10)) ∧ (0 ≤ F' 344 5 ∧ F' 344 5 ≤ K 1 6 - 1)) ∨ (∃ F' : fl_N, fl_H sh_T G F' ++ X = A ∧ gi F' ∧ fs [(344, 344, 5, 5), (344, 344, 9, 10), (344, 344, 17, 17), (350, 352, 0, 100000), (383, 383, 0, 100000)] F F' ∧ (F' 344 9 = 0 ∧ F 344 9 = 0) ∧ (∃ c t, sp_q1 K ts l (F 344 5) = .inr (F' 344 5, l ++ [c], t) ∧ rpn (F' 350) (F' 344 17) (l ++ [c]) ∧ (rprd F' (ps ++ [t]) ∧ (ps ++ [t]).length = (l ++ [c]).length)) ∧ (0 ≤ F' 344 5 ∧ F' 344 5 ≤ K 1 6 - 1))) gqn
theorem mc_182 {G : Nat → Nat → Option Nat} (hG : gg G) (F : fl_N) (X : xi_H) (hgi : gi F) (K : fl_N) (ts l : List Int) (ps : List (List Int)) (hgK : gi K) (hrk : rk K F) (hkt : rkt K) (hp : 0 ≤ F 344 5 ∧ F 344 5 ≤ K 1 6 - 1) (hts : rpn (F 349) (F 344 15) ts) (hl : rpn (F 350) (F 344 17) l) (hps : rprd F ps ∧ ps.length = l.length) : fl_M xi_ms 182 5 112 [.ref 344] (fl_H sh_T G F ++ X) (pq_182 G F X K ts l ps) := by
  intro fr lo hfr hlo
  show fl_R xi_ms 182 fr lo 0 [(0, .ref 344)] [] _ _
  have hP := (rkt_p hkt hp.1 hp.2 hgK).1
  have hK16 : 0 ≤ K 1 6 ∧ K 1 6 ≤ 601 := gi_g hgK rfl
  have hko := hkt.1
  have hl1 := hl.1
  have hb17 : 0 ≤ F 344 17 ∧ F 344 17 ≤ 6 := gi_g hgi rfl
  have b1_ : 0 ≤ F 344 9 ∧ F 344 9 ≤ 5 := gi_g hgi rfl
  by_cases h2_ : F 344 9 = 0
  ·
    refine ga_aload_n (v := .ref 344) hm_182 rfl rfl rfl ?_
    have b3_ : 0 ≤ F 344 17 ∧ F 344 17 ≤ 6 := gi_g hgi rfl
    refine ga_geti (z := F 344 17) hm_182 rfl sc_344 rfl (rfl) ?_
    refine fl_bipush hm_182 rfl rfl ?_
    refine fx_icmp_ne (a := F 344 17) (b := 6) hm_182 rfl ⟨by omega, by omega⟩ ⟨by omega, by omega⟩ (fun h4_ => ?_) (fun h5_ => ?_)
    ·
      refine ga_aload_n (v := .ref 344) hm_182 rfl rfl rfl ?_
      refine fl_bipush hm_182 rfl rfl ?_
      have b6_ : 0 ≤ F 344 5 ∧ F 344 5 ≤ 600 := gi_g hgi rfl
      refine gVv (nY := 2) (F := 2) (L := 41) (As := [.int (Int32.ofInt 40)]) (b := 344) (rest := []) hm_182 rfl hm_51 rfl rfl (fl_ob sc_344) rfl rfl rfl rfl rfl (by omega) (by omega) (mc_51 hG F X hgi (K) (40) (0) hgK hrk hkt (by omega) (by omega) (by omega)) (fun _ _ h => False.elim h) ?_
      have b8_ : 0 ≤ F 344 10 ∧ F 344 10 ≤ 600 := gi_g hgi rfl
      rintro A1_ (⟨F12_, hA_, g13_, s14_, c9_, c10_, c11_⟩ | ⟨F18_, hA_, g19_, s20_, c15_, c16_, c17_⟩)
      ·
        subst hA_
        have g21_ : fs [(344, 344, 5, 5), (344, 344, 9, 10), (344, 344, 17, 17), (350, 352, 0, 100000), (383, 383, 0, 100000)] F F12_ := fs_tr fs_refl s14_ rfl
        have rk22_ : rk K F12_ := rk_fs hrk s14_ (fun r k h => (fs_n (by omega) (fs_n (by omega) rfl))) (fs_n (by omega) (fs_n (by omega) rfl))
        have c10_s := c10_.1 (by omega)
        clear c10_
        refine ga_aload_n (v := .ref 344) hm_182 rfl rfl rfl ?_
        have b23_ : 0 ≤ F12_ 344 5 ∧ F12_ 344 5 ≤ 600 := gi_g g13_ rfl
        refine gVl (nY := 3) (F := 2) (L := 46) (As := []) (b := 344) (rest := []) hm_182 rfl hm_58 rfl rfl (fl_ob sc_344) rfl rfl rfl rfl rfl (by omega) (by omega) (mc_58 hG F12_ X g13_ (K) hgK rk22_ hkt (by omega)) (fun _ _ h => False.elim h) ?_
        have b25_ : 0 ≤ F12_ 344 10 ∧ F12_ 344 10 ≤ 600 := gi_g g13_ rfl
        have b26_ : 0 ≤ F12_ 344 9 ∧ F12_ 344 9 ≤ 5 := gi_g g13_ rfl
        rintro z24_ A1_ (⟨F31_, hA_, g32_, s33_, c27_, c28_, c29_, c30_⟩ | ⟨F41_, hA_, g42_, s43_, c34_, c35_, c36_, c37_, c38_, c39_, c40_⟩)
        ·
          subst hA_
          have g44_ : fs [(344, 344, 5, 5), (344, 344, 9, 10), (344, 344, 17, 17), (350, 352, 0, 100000), (383, 383, 0, 100000)] F F31_ := fs_tr g21_ s33_ rfl
          have rk45_ : rk K F31_ := rk_fs rk22_ s33_ (fun r k h => (fs_n (by omega) rfl)) (fs_n (by omega) rfl)
          have c28_k := c28_.2 (by omega)
          clear c28_
          refine ga_lstore_n (lv2 := [(1, .long (Int64.ofInt z24_)), (0, .ref 344)]) hm_182 rfl (Nat.le_of_ble_eq_true rfl) rfl ?_
          refine ga_aload_n (v := .ref 344) hm_182 rfl rfl rfl ?_
          refine gIi (nY := 1) (F := 0) (L := 0) (As := []) (b := 344) (rest := []) hm_182 rfl hm_59 rfl rfl (fl_ob sc_344) rfl rfl rfl rfl rfl (by omega) (by omega) ?_
          intro f46_ l47_ h48_ h49_
          show fl_R xi_ms 59 f46_ l47_ 0 [(0, .ref 344)] [] _ _
          refine ga_aload_n (v := .ref 344) hm_59 rfl rfl rfl ?_
          have b50_ : 0 ≤ F31_ 344 9 ∧ F31_ 344 9 ≤ 5 := gi_g g32_ rfl
          refine ga_geti (z := F31_ 344 9) hm_59 rfl sc_344 rfl (rfl) ?_
          refine fl_if_le (a := F31_ 344 9) hm_59 rfl ⟨by omega, by omega⟩ (fun h51_ => ?_) (fun h52_ => ?_)
          · exfalso; omega
          refine fl_iconst hm_59 rfl ?_
          refine fl_goto hm_59 rfl ?_
          refine gr_i hm_59 rfl rfl (ga_nb (by omega)) ?_
          clear h48_ h49_ f46_ l47_
          refine fl_if_ne hm_182 rfl ⟨by omega, by omega⟩ (fun _ => ?_) (fun h => absurd (by omega) h)
          refine ga_aload_n (v := .ref 344) hm_182 rfl rfl rfl ?_
          refine gIv (nY := 1) (F := 1) (L := 20) (As := []) (b := 344) (rest := []) hm_182 rfl hm_61 rfl rfl (fl_ob sc_344) rfl rfl rfl rfl rfl (by omega) (by omega) ?_
          intro f53_ l54_ h55_ h56_
          show fl_R xi_ms 61 f53_ l54_ 0 [(0, .ref 344)] [] _ _
          refine ga_aload_n (v := .ref 344) hm_61 rfl rfl rfl ?_
          refine ga_dup hm_61 rfl rfl ?_
          have e57_ : F31_ 344 5 = F12_ 344 5 := (s33_ 344 5 rfl).trans (rfl)
          refine ga_geti (z := F12_ 344 5) hm_61 rfl sc_344 rfl (e57_) ?_
          refine ga_aload_n (v := .ref 344) hm_61 rfl rfl rfl ?_
          refine gIi (nY := 1) (F := 0) (L := 0) (As := []) (b := 344) (rest := [.int (Int32.ofInt (F12_ 344 5)), .ref 344]) hm_61 rfl hm_59 rfl rfl (fl_ob sc_344) rfl rfl rfl rfl rfl (by omega) (by omega) ?_
          intro f58_ l59_ h60_ h61_
          show fl_R xi_ms 59 f58_ l59_ 0 [(0, .ref 344)] [] _ _
          refine ga_aload_n (v := .ref 344) hm_59 rfl rfl rfl ?_
          refine ga_geti (z := F31_ 344 9) hm_59 rfl sc_344 rfl (rfl) ?_
          refine fl_if_le (a := F31_ 344 9) hm_59 rfl ⟨by omega, by omega⟩ (fun h62_ => ?_) (fun h63_ => ?_)
          · exfalso; omega
          refine fl_iconst hm_59 rfl ?_
          refine fl_goto hm_59 rfl ?_
          refine gr_i hm_59 rfl rfl (ga_nb (by omega)) ?_
          clear h60_ h61_ f58_ l59_
          refine fl_if_eq hm_61 rfl ⟨by omega, by omega⟩ (fun h => absurd h (by omega)) (fun _ => ?_)
          refine fl_iconst hm_61 rfl ?_
          refine fl_goto hm_61 rfl ?_
          refine ga_iadd (a := F12_ 344 5) (b := 0) (c := F12_ 344 5) hm_61 rfl (by omega) ?_
          refine ga_puti (z := F12_ 344 5) hm_61 rfl sc_344 rfl rfl ?_
          refine gr_v hm_61 rfl rfl ?_
          clear h55_ h56_ f53_ l54_
          refine ga_aload_n (v := .ref 344) hm_182 rfl rfl rfl ?_
          refine gIi (nY := 1) (F := 0) (L := 0) (As := []) (b := 344) (rest := []) hm_182 rfl hm_59 rfl rfl (fl_ob sc_344) rfl rfl rfl rfl rfl (by omega) (by omega) ?_
          intro f64_ l65_ h66_ h67_
          show fl_R xi_ms 59 f64_ l65_ 0 [(0, .ref 344)] [] _ _
          refine ga_aload_n (v := .ref 344) hm_59 rfl rfl rfl ?_
          refine ga_geti (z := F31_ 344 9) hm_59 rfl sc_344 rfl (fl_u_ne (by omega)) ?_
          refine fl_if_le (a := F31_ 344 9) hm_59 rfl ⟨by omega, by omega⟩ (fun h68_ => ?_) (fun h69_ => ?_)
          · exfalso; omega
          refine fl_iconst hm_59 rfl ?_
          refine fl_goto hm_59 rfl ?_
          refine gr_i hm_59 rfl rfl (ga_nb (by omega)) ?_
          clear h66_ h67_ f64_ l65_
          refine fl_if_eq hm_182 rfl ⟨by omega, by omega⟩ (fun h => absurd h (by omega)) (fun _ => ?_)
          obtain ⟨F70_, q71_⟩ : ∃ F9_, F9_ = (fl_u F31_ 344 5 (F12_ 344 5)) := ⟨_, rfl⟩
          rw [← q71_]
          have g72_ : gi F70_ := by rw [q71_]; exact gi_u (g32_) rfl (by omega) (by omega)
          have g73_ : fs [(344, 344, 5, 5), (344, 344, 9, 10), (344, 344, 17, 17), (350, 352, 0, 100000), (383, 383, 0, 100000)] F F70_ := by rw [q71_]; exact fs_u (g44_) rfl
          have rk74_ : rk K F70_ := by rw [q71_]; exact rk_u (rk45_) (by omega) (by omega)
          refine gr_v hm_182 rfl rfl ?_
          have e75_ : F70_ 344 9 = F31_ 344 9 := by rw [q71_]; exact fl_u_ne (by omega)
          have e76_ : F70_ 344 10 = F31_ 344 10 := by rw [q71_]; exact fl_u_ne (by omega)
          have e77_ : F70_ 344 5 = F12_ 344 5 := by rw [q71_]; exact fl_u_eq
          have b78_ : 0 ≤ F31_ 344 10 ∧ F31_ 344 10 ≤ 600 := gi_g g32_ rfl
          exact Or.inl ⟨F70_, rfl, g72_, g73_, (by omega), (⟨by intro h0_; have hs_ := c10_s; rw [sp_q1, if_neg (by omega)]; rw [hs_]; show Sum.inl _ = _; congr 2 <;> omega, fun h0_ => by exfalso; omega⟩), (by omega)⟩
        exfalso; omega
      subst hA_
      have g79_ : fs [(344, 344, 5, 5), (344, 344, 9, 10), (344, 344, 17, 17), (350, 352, 0, 100000), (383, 383, 0, 100000)] F F18_ := fs_tr fs_refl s20_ rfl
      have rk80_ : rk K F18_ := rk_fs hrk s20_ (fun r k h => (fs_n (by omega) (fs_n (by omega) rfl))) (fs_n (by omega) (fs_n (by omega) rfl))
      refine ga_aload_n (v := .ref 344) hm_182 rfl rfl rfl ?_
      have b81_ : 0 ≤ F18_ 344 5 ∧ F18_ 344 5 ≤ 600 := gi_g g19_ rfl
      refine gVl (nY := 3) (F := 2) (L := 46) (As := []) (b := 344) (rest := []) hm_182 rfl hm_58 rfl rfl (fl_ob sc_344) rfl rfl rfl rfl rfl (by omega) (by omega) (mc_58 hG F18_ X g19_ (K) hgK rk80_ hkt (by omega)) (fun _ _ h => False.elim h) ?_
      have b83_ : 0 ≤ F18_ 344 10 ∧ F18_ 344 10 ≤ 600 := gi_g g19_ rfl
      have b84_ : 0 ≤ F18_ 344 9 ∧ F18_ 344 9 ≤ 5 := gi_g g19_ rfl
      rintro z82_ A1_ (⟨F89_, hA_, g90_, s91_, c85_, c86_, c87_, c88_⟩ | ⟨F99_, hA_, g100_, s101_, c92_, c93_, c94_, c95_, c96_, c97_, c98_⟩)
      ·
        subst hA_
        have g102_ : fs [(344, 344, 5, 5), (344, 344, 9, 10), (344, 344, 17, 17), (350, 352, 0, 100000), (383, 383, 0, 100000)] F F89_ := fs_tr g79_ s91_ rfl
        have rk103_ : rk K F89_ := rk_fs rk80_ s91_ (fun r k h => (fs_n (by omega) rfl)) (fs_n (by omega) rfl)
        have c86_s := c86_.1 (by omega)
        clear c86_
        refine ga_lstore_n (lv2 := [(1, .long (Int64.ofInt z82_)), (0, .ref 344)]) hm_182 rfl (Nat.le_of_ble_eq_true rfl) rfl ?_
        refine ga_aload_n (v := .ref 344) hm_182 rfl rfl rfl ?_
        refine gIi (nY := 1) (F := 0) (L := 0) (As := []) (b := 344) (rest := []) hm_182 rfl hm_59 rfl rfl (fl_ob sc_344) rfl rfl rfl rfl rfl (by omega) (by omega) ?_
        intro f104_ l105_ h106_ h107_
        show fl_R xi_ms 59 f104_ l105_ 0 [(0, .ref 344)] [] _ _
        refine ga_aload_n (v := .ref 344) hm_59 rfl rfl rfl ?_
        have b108_ : 0 ≤ F89_ 344 9 ∧ F89_ 344 9 ≤ 5 := gi_g g90_ rfl
        refine ga_geti (z := F89_ 344 9) hm_59 rfl sc_344 rfl (rfl) ?_
        refine fl_if_le (a := F89_ 344 9) hm_59 rfl ⟨by omega, by omega⟩ (fun h109_ => ?_) (fun h110_ => ?_)
        · exfalso; omega
        refine fl_iconst hm_59 rfl ?_
        refine fl_goto hm_59 rfl ?_
        refine gr_i hm_59 rfl rfl (ga_nb (by omega)) ?_
        clear h106_ h107_ f104_ l105_
        refine fl_if_ne hm_182 rfl ⟨by omega, by omega⟩ (fun _ => ?_) (fun h => absurd (by omega) h)
        refine ga_aload_n (v := .ref 344) hm_182 rfl rfl rfl ?_
        refine gIv (nY := 1) (F := 1) (L := 20) (As := []) (b := 344) (rest := []) hm_182 rfl hm_61 rfl rfl (fl_ob sc_344) rfl rfl rfl rfl rfl (by omega) (by omega) ?_
        intro f111_ l112_ h113_ h114_
        show fl_R xi_ms 61 f111_ l112_ 0 [(0, .ref 344)] [] _ _
        refine ga_aload_n (v := .ref 344) hm_61 rfl rfl rfl ?_
        refine ga_dup hm_61 rfl rfl ?_
        have e115_ : F89_ 344 5 = F18_ 344 5 := (s91_ 344 5 rfl).trans (rfl)
        refine ga_geti (z := F18_ 344 5) hm_61 rfl sc_344 rfl (e115_) ?_
        refine ga_aload_n (v := .ref 344) hm_61 rfl rfl rfl ?_
        refine gIi (nY := 1) (F := 0) (L := 0) (As := []) (b := 344) (rest := [.int (Int32.ofInt (F18_ 344 5)), .ref 344]) hm_61 rfl hm_59 rfl rfl (fl_ob sc_344) rfl rfl rfl rfl rfl (by omega) (by omega) ?_
        intro f116_ l117_ h118_ h119_
        show fl_R xi_ms 59 f116_ l117_ 0 [(0, .ref 344)] [] _ _
        refine ga_aload_n (v := .ref 344) hm_59 rfl rfl rfl ?_
        refine ga_geti (z := F89_ 344 9) hm_59 rfl sc_344 rfl (rfl) ?_
        refine fl_if_le (a := F89_ 344 9) hm_59 rfl ⟨by omega, by omega⟩ (fun h120_ => ?_) (fun h121_ => ?_)
        · exfalso; omega
        refine fl_iconst hm_59 rfl ?_
        refine fl_goto hm_59 rfl ?_
        refine gr_i hm_59 rfl rfl (ga_nb (by omega)) ?_
        clear h118_ h119_ f116_ l117_
        refine fl_if_eq hm_61 rfl ⟨by omega, by omega⟩ (fun h => absurd h (by omega)) (fun _ => ?_)
        refine fl_iconst hm_61 rfl ?_
        refine fl_goto hm_61 rfl ?_
        refine ga_iadd (a := F18_ 344 5) (b := 0) (c := F18_ 344 5) hm_61 rfl (by omega) ?_
        refine ga_puti (z := F18_ 344 5) hm_61 rfl sc_344 rfl rfl ?_
        refine gr_v hm_61 rfl rfl ?_
        clear h113_ h114_ f111_ l112_
        refine ga_aload_n (v := .ref 344) hm_182 rfl rfl rfl ?_
        refine gIi (nY := 1) (F := 0) (L := 0) (As := []) (b := 344) (rest := []) hm_182 rfl hm_59 rfl rfl (fl_ob sc_344) rfl rfl rfl rfl rfl (by omega) (by omega) ?_
        intro f122_ l123_ h124_ h125_
        show fl_R xi_ms 59 f122_ l123_ 0 [(0, .ref 344)] [] _ _
        refine ga_aload_n (v := .ref 344) hm_59 rfl rfl rfl ?_
        refine ga_geti (z := F89_ 344 9) hm_59 rfl sc_344 rfl (fl_u_ne (by omega)) ?_
        refine fl_if_le (a := F89_ 344 9) hm_59 rfl ⟨by omega, by omega⟩ (fun h126_ => ?_) (fun h127_ => ?_)
        · exfalso; omega
        refine fl_iconst hm_59 rfl ?_
        refine fl_goto hm_59 rfl ?_
        refine gr_i hm_59 rfl rfl (ga_nb (by omega)) ?_
        clear h124_ h125_ f122_ l123_
        refine fl_if_eq hm_182 rfl ⟨by omega, by omega⟩ (fun h => absurd h (by omega)) (fun _ => ?_)
        obtain ⟨F128_, q129_⟩ : ∃ F9_, F9_ = (fl_u F89_ 344 5 (F18_ 344 5)) := ⟨_, rfl⟩
        rw [← q129_]
        have g130_ : gi F128_ := by rw [q129_]; exact gi_u (g90_) rfl (by omega) (by omega)
        have g131_ : fs [(344, 344, 5, 5), (344, 344, 9, 10), (344, 344, 17, 17), (350, 352, 0, 100000), (383, 383, 0, 100000)] F F128_ := by rw [q129_]; exact fs_u (g102_) rfl
        have rk132_ : rk K F128_ := by rw [q129_]; exact rk_u (rk103_) (by omega) (by omega)
        refine gr_v hm_182 rfl rfl ?_
        have e133_ : F128_ 344 9 = F89_ 344 9 := by rw [q129_]; exact fl_u_ne (by omega)
        have e134_ : F128_ 344 10 = F89_ 344 10 := by rw [q129_]; exact fl_u_ne (by omega)
        have e135_ : F128_ 344 5 = F18_ 344 5 := by rw [q129_]; exact fl_u_eq
        have b136_ : 0 ≤ F89_ 344 10 ∧ F89_ 344 10 ≤ 600 := gi_g g90_ rfl
        exact Or.inl ⟨F128_, rfl, g130_, g131_, (by omega), (⟨by intro h0_; have hs_ := c86_s; rw [sp_q1, if_neg (by omega)]; rw [c16_, pb_r]; have h1_ := nm_no hs_; rw [sp_nm, if_neg h1_] at hs_; have h2_ := Prod.mk.inj (Sum.inl.inj hs_); rw [sp_new, if_neg h1_]; show Sum.inl (1, K 4 _) = _; congr 2 <;> omega, fun h0_ => by exfalso; omega⟩), (by omega)⟩
      subst hA_
      have g137_ : fs [(344, 344, 5, 5), (344, 344, 9, 10), (344, 344, 17, 17), (350, 352, 0, 100000), (383, 383, 0, 100000)] F F99_ := fs_tr g79_ s101_ rfl
      have rk138_ : rk K F99_ := rk_fs rk80_ s101_ (fun r k h => (fs_n (by omega) rfl)) (fs_n (by omega) rfl)
      refine ga_lstore_n (lv2 := [(1, .long (Int64.ofInt z82_)), (0, .ref 344)]) hm_182 rfl (Nat.le_of_ble_eq_true rfl) rfl ?_
      refine ga_aload_n (v := .ref 344) hm_182 rfl rfl rfl ?_
      refine gIi (nY := 1) (F := 0) (L := 0) (As := []) (b := 344) (rest := []) hm_182 rfl hm_59 rfl rfl (fl_ob sc_344) rfl rfl rfl rfl rfl (by omega) (by omega) ?_
      intro f139_ l140_ h141_ h142_
      show fl_R xi_ms 59 f139_ l140_ 0 [(0, .ref 344)] [] _ _
      refine ga_aload_n (v := .ref 344) hm_59 rfl rfl rfl ?_
      have b143_ : 0 ≤ F99_ 344 9 ∧ F99_ 344 9 ≤ 5 := gi_g g100_ rfl
      refine ga_geti (z := F99_ 344 9) hm_59 rfl sc_344 rfl (rfl) ?_
      refine fl_if_le (a := F99_ 344 9) hm_59 rfl ⟨by omega, by omega⟩ (fun h144_ => ?_) (fun h145_ => ?_)
      ·
        refine fl_iconst hm_59 rfl ?_
        refine gr_i hm_59 rfl rfl (ga_nb (by omega)) ?_
        clear h141_ h142_ f139_ l140_
        refine fl_if_ne hm_182 rfl ⟨by omega, by omega⟩ (fun h => absurd h (by omega)) (fun _ => ?_)
        refine ga_aload_n (v := .ref 344) hm_182 rfl rfl rfl ?_
        refine ga_getr (b := 350) hm_182 rfl sc_344 rfl ?_
        refine fl_iconst hm_182 rfl ?_
        refine ga_aload_n (v := .ref 344) hm_182 rfl rfl rfl ?_
        have e146_ : F18_ 344 17 = F 344 17 := (s20_ 344 17 rfl).trans (rfl)
        have e147_ : F99_ 344 17 = F 344 17 := (s101_ 344 17 rfl).trans (e146_)
        refine ga_geti (z := F 344 17) hm_182 rfl sc_344 rfl (e147_) ?_
        refine ga_lload_n (z := z82_) hm_182 rfl rfl ?_
        refine gSi (nY := 7) (F := 0) (L := 0) (As := [.ref 350, .int (Int32.ofInt 0), .int (Int32.ofInt (F 344 17)), .long (Int64.ofInt z82_)]) (rest := []) hm_182 rfl hm_162 rfl rfl (fl_pos sc_0) rfl rfl rfl rfl (by omega) (by omega) (mc_162 hG F99_ X g100_ (350) (6) (0) (F 344 17) (z82_) sc_350 (fun _ => rfl) (by omega) (by omega))  ?_
        rintro z148_ A1_ ⟨hA_, c149_, c150_, c151_⟩
        subst hA_
        refine fl_iconst hm_182 rfl ?_
        refine fl_icmp_eq (a := z148_) (b := -1) hm_182 rfl ⟨by omega, by omega⟩ ⟨by omega, by omega⟩ (fun h152_ => ?_) (fun h153_ => ?_)
        ·
          refine ga_aload_n (v := .ref 344) hm_182 rfl rfl rfl ?_
          refine gIv (nY := 1) (F := 1) (L := 20) (As := []) (b := 344) (rest := []) hm_182 rfl hm_61 rfl rfl (fl_ob sc_344) rfl rfl rfl rfl rfl (by omega) (by omega) ?_
          intro f154_ l155_ h156_ h157_
          show fl_R xi_ms 61 f154_ l155_ 0 [(0, .ref 344)] [] _ _
          refine ga_aload_n (v := .ref 344) hm_61 rfl rfl rfl ?_
          refine ga_dup hm_61 rfl rfl ?_
          have e158_ : F99_ 344 5 = F18_ 344 5 := (s101_ 344 5 rfl).trans (rfl)
          refine ga_geti (z := F18_ 344 5) hm_61 rfl sc_344 rfl (e158_) ?_
          refine ga_aload_n (v := .ref 344) hm_61 rfl rfl rfl ?_
          refine gIi (nY := 1) (F := 0) (L := 0) (As := []) (b := 344) (rest := [.int (Int32.ofInt (F18_ 344 5)), .ref 344]) hm_61 rfl hm_59 rfl rfl (fl_ob sc_344) rfl rfl rfl rfl rfl (by omega) (by omega) ?_
          intro f159_ l160_ h161_ h162_
          show fl_R xi_ms 59 f159_ l160_ 0 [(0, .ref 344)] [] _ _
          refine ga_aload_n (v := .ref 344) hm_59 rfl rfl rfl ?_
          refine ga_geti (z := F99_ 344 9) hm_59 rfl sc_344 rfl (rfl) ?_
          refine fl_if_le (a := F99_ 344 9) hm_59 rfl ⟨by omega, by omega⟩ (fun h163_ => ?_) (fun h164_ => ?_)
          ·
            refine fl_iconst hm_59 rfl ?_
            refine gr_i hm_59 rfl rfl (ga_nb (by omega)) ?_
            clear h161_ h162_ f159_ l160_
            refine fl_if_eq hm_61 rfl ⟨by omega, by omega⟩ (fun _ => ?_) (fun h => absurd (by omega) h)
            refine fl_iconst hm_61 rfl ?_
            refine ga_iadd (a := F18_ 344 5) (b := 1) (c := F18_ 344 5 + 1) hm_61 rfl (by omega) ?_
            refine ga_puti (z := F18_ 344 5 + 1) hm_61 rfl sc_344 rfl rfl ?_
            refine gr_v hm_61 rfl rfl ?_
            clear h156_ h157_ f154_ l155_
            refine ga_aload_n (v := .ref 344) hm_182 rfl rfl rfl ?_
            refine gIi (nY := 1) (F := 0) (L := 0) (As := []) (b := 344) (rest := []) hm_182 rfl hm_59 rfl rfl (fl_ob sc_344) rfl rfl rfl rfl rfl (by omega) (by omega) ?_
            intro f165_ l166_ h167_ h168_
            show fl_R xi_ms 59 f165_ l166_ 0 [(0, .ref 344)] [] _ _
            refine ga_aload_n (v := .ref 344) hm_59 rfl rfl rfl ?_
            refine ga_geti (z := F99_ 344 9) hm_59 rfl sc_344 rfl (fl_u_ne (by omega)) ?_
            refine fl_if_le (a := F99_ 344 9) hm_59 rfl ⟨by omega, by omega⟩ (fun h169_ => ?_) (fun h170_ => ?_)
            ·
              refine fl_iconst hm_59 rfl ?_
              refine gr_i hm_59 rfl rfl (ga_nb (by omega)) ?_
              clear h167_ h168_ f165_ l166_
              refine fl_if_eq hm_182 rfl ⟨by omega, by omega⟩ (fun _ => ?_) (fun h => absurd (by omega) h)
              refine ga_aload_n (v := .ref 344) hm_182 rfl rfl rfl ?_
              refine ga_getr (b := 350) hm_182 rfl sc_344 rfl ?_
              refine ga_aload_n (v := .ref 344) hm_182 rfl rfl rfl ?_
              refine ga_geti (z := F 344 17) hm_182 rfl sc_344 rfl ((fl_u_ne (by omega)).trans (e147_)) ?_
              refine ga_lload_n (z := z82_) hm_182 rfl rfl ?_
              refine fl_last (z := F 344 17) (v := z82_) hm_182 rfl sc_350 (by omega) (by omega) (by omega) ?_
              refine ga_aload_n (v := .ref 344) hm_182 rfl rfl rfl ?_
              refine ga_getr (b := 351) hm_182 rfl sc_344 rfl ?_
              refine ga_aload_n (v := .ref 344) hm_182 rfl rfl rfl ?_
              refine ga_geti (z := F 344 17) hm_182 rfl sc_344 rfl ((fl_u_ne (by omega)).trans ((fl_u_ne (by omega)).trans (e147_))) ?_
              refine fl_iconst hm_182 rfl ?_
              refine fl_iast (z := F 344 17) (v := 0) hm_182 rfl sc_351 (by omega) (by omega) (by omega) ?_
              refine ga_aload_n (v := .ref 344) hm_182 rfl rfl rfl ?_
              refine ga_getr (b := 351) hm_182 rfl sc_344 rfl ?_
              refine ga_aload_n (v := .ref 344) hm_182 rfl rfl rfl ?_
              refine ga_geti (z := F 344 17) hm_182 rfl sc_344 rfl ((fl_u_ne (by omega)).trans ((fl_u_ne (by omega)).trans ((fl_u_ne (by omega)).trans (e147_)))) ?_
              refine ga_aload_n (v := .ref 344) hm_182 rfl rfl rfl ?_
              obtain ⟨F171_, q172_⟩ : ∃ F9_, F9_ = (fl_u (fl_u (fl_u F99_ 344 5 (F18_ 344 5 + 1)) 350 (F 344 17).toNat z82_) 351 (F 344 17).toNat 0) := ⟨_, rfl⟩
              rw [← q172_]
              have g173_ : gi F171_ := by rw [q172_]; exact gi_u (gi_u (gi_u (g100_) rfl (by omega) (by omega)) rfl (by omega) (by omega)) rfl (by omega) (by omega)
              have g174_ : fs [(344, 344, 5, 5), (344, 344, 9, 10), (344, 344, 17, 17), (350, 352, 0, 100000), (383, 383, 0, 100000)] F F171_ := by rw [q172_]; exact fs_u (fs_u (fs_u (g137_) rfl) (fs_z (fs_z (fs_z (fs_y (by omega)))))) (fs_z (fs_z (fs_z (fs_y (by omega)))))
              have rk175_ : rk K F171_ := by rw [q172_]; exact rk_u (rk_u (rk_u (rk138_) (by omega) (by omega)) (by omega) (by omega)) (by omega) (by omega)
              have e176_ : F171_ 344 5 = F18_ 344 5 + 1 := by rw [q172_]; exact (fl_u_ne (by omega)).trans ((fl_u_ne (by omega)).trans (fl_u_eq))
              have e177_ : F171_ 344 17 = F 344 17 := by rw [q172_]; exact (fl_u_ne (by omega)).trans ((fl_u_ne (by omega)).trans ((fl_u_ne (by omega)).trans (e147_)))
              refine gVi (nY := 4) (F := 4) (L := 89) (As := []) (b := 344) (rest := [.int (Int32.ofInt (F 344 17)), .ref 351]) hm_182 rfl hm_183 rfl rfl (fl_ob sc_344) rfl rfl rfl rfl rfl (by omega) (by omega) (mc_183 hG F171_ X g173_ (K) (ts) hgK rk175_ hkt (by omega) ((by rw [q172_]; exact (rpn_u (rpn_u (rpn_u (rpn_fs (rpn_fs hts s20_ (fun _ => (fs_n (by omega) (fs_n (by omega) rfl))) (fs_n (by omega) (fs_n (by omega) rfl))) s101_ (fun _ => (fs_n (by omega) rfl)) (fs_n (by omega) rfl)) (by omega) (by omega)) (by omega) (by omega)) (by omega) (by omega)))) (by omega)) (fun _ _ h => False.elim h) ?_
              have e179_ : F171_ 344 10 = F99_ 344 10 := by rw [q172_]; exact (fl_u_ne (by omega)).trans ((fl_u_ne (by omega)).trans (fl_u_ne (by omega)))
              have b180_ : 0 ≤ F99_ 344 10 ∧ F99_ 344 10 ≤ 600 := gi_g g100_ rfl
              have e181_ : F171_ 344 9 = F99_ 344 9 := by rw [q172_]; exact (fl_u_ne (by omega)).trans ((fl_u_ne (by omega)).trans (fl_u_ne (by omega)))
              rintro z178_ A1_ (⟨F186_, hA_, g187_, s188_, c182_, c183_, c184_, c185_⟩ | ⟨F193_, hA_, g194_, s195_, c189_, c190_, c191_, c192_⟩)
              ·
                subst hA_
                have g196_ : fs [(344, 344, 5, 5), (344, 344, 9, 10), (344, 344, 17, 17), (350, 352, 0, 100000), (383, 383, 0, 100000)] F F186_ := fs_tr g174_ s188_ rfl
                have rk197_ : rk K F186_ := rk_fs rk175_ s188_ (fun r k h => (fs_n (by omega) (fs_n (by omega) (fs_n (by omega) (fs_n (by omega) rfl))))) (fs_n (by omega) (fs_n (by omega) (fs_n (by omega) (fs_n (by omega) rfl))))
                try simp only [e176_, e179_, e181_] at c183_
                have c183_s := c183_.1 (by omega)
                clear c183_
                try obtain ⟨l2_, tl2_, ⟨ct1_, ct2_⟩, ⟨ct3_, ct5_⟩, ct4_, ct6_⟩ := c183_s
                refine fl_iast (z := F 344 17) (v := z178_) hm_182 rfl sc_351 (by omega) (by omega) (by omega) ?_
                refine ga_aload_n (v := .ref 344) hm_182 rfl rfl rfl ?_
                refine ga_dup hm_182 rfl rfl ?_
                have e198_ : F186_ 344 17 = F 344 17 := (s188_ 344 17 rfl).trans (e177_)
                refine ga_geti (z := F 344 17) hm_182 rfl sc_344 rfl ((fl_u_ne (by omega)).trans (e198_)) ?_
                refine fl_iconst hm_182 rfl ?_
                refine ga_iadd (a := F 344 17) (b := 1) (c := F 344 17 + 1) hm_182 rfl (by omega) ?_
                refine ga_puti (z := F 344 17 + 1) hm_182 rfl sc_344 rfl rfl ?_
                refine ga_aload_n (v := .ref 344) hm_182 rfl rfl rfl ?_
                refine fl_bipush hm_182 rfl rfl ?_
                obtain ⟨F199_, q200_⟩ : ∃ F9_, F9_ = (fl_u (fl_u F186_ 351 (F 344 17).toNat z178_) 344 17 (F 344 17 + 1)) := ⟨_, rfl⟩
                rw [← q200_]
                have g201_ : gi F199_ := by rw [q200_]; exact gi_u (gi_u (g187_) rfl (by omega) (by omega)) rfl (by omega) (by omega)
                have g202_ : fs [(344, 344, 5, 5), (344, 344, 9, 10), (344, 344, 17, 17), (350, 352, 0, 100000), (383, 383, 0, 100000)] F F199_ := by rw [q200_]; exact fs_u (fs_u (g196_) (fs_z (fs_z (fs_z (fs_y (by omega)))))) rfl
                have rk203_ : rk K F199_ := by rw [q200_]; exact rk_u (rk_u (rk197_) (by omega) (by omega)) (by omega) (by omega)
                have e204_ : F199_ 344 5 = F186_ 344 5 := by rw [q200_]; exact (fl_u_ne (by omega)).trans (fl_u_ne (by omega))
                have b205_ : 0 ≤ F186_ 344 5 ∧ F186_ 344 5 ≤ 600 := gi_g g187_ rfl
                refine gVv (nY := 2) (F := 2) (L := 41) (As := [.int (Int32.ofInt 41)]) (b := 344) (rest := []) hm_182 rfl hm_51 rfl rfl (fl_ob sc_344) rfl rfl rfl rfl rfl (by omega) (by omega) (mc_51 hG F199_ X g201_ (K) (41) (1) hgK rk203_ hkt (by omega) (by omega) (by omega)) (fun _ _ h => False.elim h) ?_
                have e207_ : F199_ 344 10 = F186_ 344 10 := by rw [q200_]; exact (fl_u_ne (by omega)).trans (fl_u_ne (by omega))
                have b208_ : 0 ≤ F186_ 344 10 ∧ F186_ 344 10 ≤ 600 := gi_g g187_ rfl
                have e209_ : F199_ 344 9 = F186_ 344 9 := by rw [q200_]; exact (fl_u_ne (by omega)).trans (fl_u_ne (by omega))
                have b210_ : 0 ≤ F186_ 344 9 ∧ F186_ 344 9 ≤ 5 := gi_g g187_ rfl
                rintro A1_ (⟨F214_, hA_, g215_, s216_, c211_, c212_, c213_⟩ | ⟨F220_, hA_, g221_, s222_, c217_, c218_, c219_⟩)
                ·
                  subst hA_
                  have g223_ : fs [(344, 344, 5, 5), (344, 344, 9, 10), (344, 344, 17, 17), (350, 352, 0, 100000), (383, 383, 0, 100000)] F F214_ := fs_tr g202_ s216_ rfl
                  have rk224_ : rk K F214_ := rk_fs rk203_ s216_ (fun r k h => (fs_n (by omega) (fs_n (by omega) rfl))) (fs_n (by omega) (fs_n (by omega) rfl))
                  try simp only [e204_, e207_, e209_] at c212_
                  have c212_k := c212_.2 (by omega)
                  clear c212_
                  refine gr_v hm_182 rfl rfl ?_
                  have b225_ : 0 ≤ F214_ 344 9 ∧ F214_ 344 9 ≤ 5 := gi_g g215_ rfl
                  have b226_ : 0 ≤ F214_ 344 10 ∧ F214_ 344 10 ≤ 600 := gi_g g215_ rfl
                  have b227_ : 0 ≤ F214_ 344 5 ∧ F214_ 344 5 ≤ 600 := gi_g g215_ rfl
                  exact Or.inl ⟨F214_, rfl, g215_, g223_, (by omega), (⟨by intro h0_; have hs_ := c183_s; rw [sp_q1, if_neg (by omega)]; rw [c16_, pb_r]; rw [sp_new, if_pos (by omega), (ra_fi (by have x_ := (rpn_fs (rpn_fs hl s20_ (fun _ => (fs_n (by omega) (fs_n (by omega) rfl))) (fs_n (by omega) (fs_n (by omega) rfl))) s101_ (fun _ => (fs_n (by omega) rfl)) (fs_n (by omega) rfl)); rw [e147_] at x_; exact x_) c95_ c149_ c150_ c151_), if_pos (by omega), sk, if_pos (by omega), pb_r]; rw [sp1_fl hs_]; congr 2 <;> omega, fun h0_ => by exfalso; omega⟩), (by omega)⟩
                exfalso; omega
              subst hA_
              have g228_ : fs [(344, 344, 5, 5), (344, 344, 9, 10), (344, 344, 17, 17), (350, 352, 0, 100000), (383, 383, 0, 100000)] F F193_ := fs_tr g174_ s195_ rfl
              have rk229_ : rk K F193_ := rk_fs rk175_ s195_ (fun r k h => (fs_n (by omega) (fs_n (by omega) (fs_n (by omega) (fs_n (by omega) rfl))))) (fs_n (by omega) (fs_n (by omega) (fs_n (by omega) (fs_n (by omega) rfl))))
              try simp only [e181_] at c189_
              try simp only [e176_, e177_] at c190_
              try obtain ⟨l2_, tl2_, ⟨ct1_, ct2_⟩, ⟨ct3_, ct5_⟩, ct4_, ct6_⟩ := c190_
              refine fl_iast (z := F 344 17) (v := z178_) hm_182 rfl sc_351 (by omega) (by omega) (by omega) ?_
              refine ga_aload_n (v := .ref 344) hm_182 rfl rfl rfl ?_
              refine ga_dup hm_182 rfl rfl ?_
              have e230_ : F193_ 344 17 = F 344 17 := (s195_ 344 17 rfl).trans (e177_)
              refine ga_geti (z := F 344 17) hm_182 rfl sc_344 rfl ((fl_u_ne (by omega)).trans (e230_)) ?_
              refine fl_iconst hm_182 rfl ?_
              refine ga_iadd (a := F 344 17) (b := 1) (c := F 344 17 + 1) hm_182 rfl (by omega) ?_
              refine ga_puti (z := F 344 17 + 1) hm_182 rfl sc_344 rfl rfl ?_
              refine ga_aload_n (v := .ref 344) hm_182 rfl rfl rfl ?_
              refine fl_bipush hm_182 rfl rfl ?_
              obtain ⟨F231_, q232_⟩ : ∃ F9_, F9_ = (fl_u (fl_u F193_ 351 (F 344 17).toNat z178_) 344 17 (F 344 17 + 1)) := ⟨_, rfl⟩
              rw [← q232_]
              have g233_ : gi F231_ := by rw [q232_]; exact gi_u (gi_u (g194_) rfl (by omega) (by omega)) rfl (by omega) (by omega)
              have g234_ : fs [(344, 344, 5, 5), (344, 344, 9, 10), (344, 344, 17, 17), (350, 352, 0, 100000), (383, 383, 0, 100000)] F F231_ := by rw [q232_]; exact fs_u (fs_u (g228_) (fs_z (fs_z (fs_z (fs_y (by omega)))))) rfl
              have rk235_ : rk K F231_ := by rw [q232_]; exact rk_u (rk_u (rk229_) (by omega) (by omega)) (by omega) (by omega)
              have e236_ : F231_ 344 5 = F193_ 344 5 := by rw [q232_]; exact (fl_u_ne (by omega)).trans (fl_u_ne (by omega))
              have b237_ : 0 ≤ F193_ 344 5 ∧ F193_ 344 5 ≤ 600 := gi_g g194_ rfl
              refine gVv (nY := 2) (F := 2) (L := 41) (As := [.int (Int32.ofInt 41)]) (b := 344) (rest := []) hm_182 rfl hm_51 rfl rfl (fl_ob sc_344) rfl rfl rfl rfl rfl (by omega) (by omega) (mc_51 hG F231_ X g233_ (K) (41) (1) hgK rk235_ hkt (by omega) (by omega) (by omega)) (fun _ _ h => False.elim h) ?_
              have e239_ : F231_ 344 10 = F193_ 344 10 := by rw [q232_]; exact (fl_u_ne (by omega)).trans (fl_u_ne (by omega))
              have b240_ : 0 ≤ F193_ 344 10 ∧ F193_ 344 10 ≤ 600 := gi_g g194_ rfl
              have e241_ : F231_ 344 9 = F193_ 344 9 := by rw [q232_]; exact (fl_u_ne (by omega)).trans (fl_u_ne (by omega))
              have b242_ : 0 ≤ F193_ 344 9 ∧ F193_ 344 9 ≤ 5 := gi_g g194_ rfl
              rintro A1_ (⟨F246_, hA_, g247_, s248_, c243_, c244_, c245_⟩ | ⟨F252_, hA_, g253_, s254_, c249_, c250_, c251_⟩)
              ·
                subst hA_
                have g255_ : fs [(344, 344, 5, 5), (344, 344, 9, 10), (344, 344, 17, 17), (350, 352, 0, 100000), (383, 383, 0, 100000)] F F246_ := fs_tr g234_ s248_ rfl
                have rk256_ : rk K F246_ := rk_fs rk235_ s248_ (fun r k h => (fs_n (by omega) (fs_n (by omega) rfl))) (fs_n (by omega) (fs_n (by omega) rfl))
                try simp only [e236_, e239_, e241_] at c244_
                have c244_s := c244_.1 (by omega)
                clear c244_
                refine gr_v hm_182 rfl rfl ?_
                have b257_ : 0 ≤ F246_ 344 9 ∧ F246_ 344 9 ≤ 5 := gi_g g247_ rfl
                have b258_ : 0 ≤ F246_ 344 10 ∧ F246_ 344 10 ≤ 600 := gi_g g247_ rfl
                have b259_ : 0 ≤ F246_ 344 5 ∧ F246_ 344 5 ≤ 600 := gi_g g247_ rfl
                exact Or.inl ⟨F246_, rfl, g247_, g255_, (by omega), (⟨by intro h0_; have hs_ := c244_s; rw [sp_q1, if_neg (by omega)]; rw [c16_, pb_r]; rw [sp_new, if_pos (by omega), (ra_fi (by have x_ := (rpn_fs (rpn_fs hl s20_ (fun _ => (fs_n (by omega) (fs_n (by omega) rfl))) (fs_n (by omega) (fs_n (by omega) rfl))) s101_ (fun _ => (fs_n (by omega) rfl)) (fs_n (by omega) rfl)); rw [e147_] at x_; exact x_) c95_ c149_ c150_ c151_), if_pos (by omega), sk, if_pos (by omega), pb_r]; rw [sp1_ok ct1_, pb_r, hs_]; show Sum.inl _ = _; congr 2 <;> omega, fun h0_ => by exfalso; omega⟩), (by omega)⟩
              subst hA_
              have g260_ : fs [(344, 344, 5, 5), (344, 344, 9, 10), (344, 344, 17, 17), (350, 352, 0, 100000), (383, 383, 0, 100000)] F F252_ := fs_tr g234_ s254_ rfl
              have rk261_ : rk K F252_ := rk_fs rk235_ s254_ (fun r k h => (fs_n (by omega) (fs_n (by omega) rfl))) (fs_n (by omega) (fs_n (by omega) rfl))
              try simp only [e241_] at c249_
              try simp only [e236_] at c250_
              refine gr_v hm_182 rfl rfl ?_
              have b262_ : 0 ≤ F252_ 344 9 ∧ F252_ 344 9 ≤ 5 := gi_g g253_ rfl
              have e263_ : F231_ 344 17 = F 344 17 + 1 := by rw [q232_]; exact fl_u_eq
              have e264_ : F252_ 344 17 = F 344 17 + 1 := (s254_ 344 17 rfl).trans (e263_)
              have b265_ : 0 ≤ F252_ 344 5 ∧ F252_ 344 5 ≤ 600 := gi_g g253_ rfl
              have e266_ : F171_ 350 (F 344 17).toNat = z82_ := by rw [q172_]; exact (fl_u_ne (by omega)).trans (fl_u_eq)
              have e267_ : F193_ 350 (F 344 17).toNat = z82_ := (s195_ 350 (F 344 17).toNat (fs_n (by omega) (fs_n (by omega) (fs_n (by omega) (fs_n (by omega) rfl))))).trans (e266_)
              have e268_ : F231_ 350 (F 344 17).toNat = z82_ := by rw [q232_]; exact (fl_u_ne (by omega)).trans ((fl_u_ne (by omega)).trans (e267_))
              have e269_ : F252_ 350 (F 344 17).toNat = z82_ := (s254_ 350 (F 344 17).toNat (fs_n (by omega) (fs_n (by omega) rfl))).trans (e268_)
              have e270_ : F231_ 351 (F 344 17).toNat = z178_ := by rw [q232_]; exact (fl_u_ne (by omega)).trans (fl_u_eq)
              have e271_ : F252_ 351 (F 344 17).toNat = z178_ := (s254_ 351 (F 344 17).toNat (fs_n (by omega) (fs_n (by omega) rfl))).trans (e270_)
              exact Or.inr (⟨F252_, rfl, g253_, g260_, (by omega), (⟨_, tl2_, by rw [sp_q1, if_neg (by omega), c16_, pb_r, sp_new, if_pos (by omega), (ra_fi (by have x_ := (rpn_fs (rpn_fs hl s20_ (fun _ => (fs_n (by omega) (fs_n (by omega) rfl))) (fs_n (by omega) (fs_n (by omega) rfl))) s101_ (fun _ => (fs_n (by omega) rfl)) (fs_n (by omega) rfl)); rw [e147_] at x_; exact x_) c95_ c149_ c150_ c151_), if_pos (by omega), sk, if_pos (by omega), pb_r, sp1_ok ct1_, pb_r, c250_, pb_r], by rw [e264_]; exact rpn_at hl (fun j hj => (Eq.trans (a := F252_ 350 j) (b := F231_ 350 j) (s254_ 350 j (fs_n (by omega) (fs_n (by omega) rfl))) (Eq.trans (a := F231_ 350 j) (b := F193_ 350 j) (by rw [q232_]; exact (fl_u_ne (by omega)).trans ((fl_u_ne (by omega)))) (Eq.trans (a := F193_ 350 j) (b := F171_ 350 j) (s195_ 350 j (fs_n (by omega) (fs_n (by omega) (fs_n (by omega) (fs_n (by omega) rfl))))) (Eq.trans (a := F171_ 350 j) (b := F99_ 350 j) (by rw [q172_]; exact (fl_u_ne (by omega)).trans ((fl_u_ne (by omega)).trans ((fl_u_ne (by omega))))) (Eq.trans (a := F99_ 350 j) (b := F18_ 350 j) (s101_ 350 j (fs_n (by omega) rfl)) (show F18_ 350 j = F 350 j from (s20_ 350 j (fs_n (by omega) (fs_n (by omega) rfl)))))))))) (e269_) c95_, ⟨rprd_add hps.1 (by omega) (fun j hj => (Eq.trans (a := F252_ 351 j) (b := F231_ 351 j) (s254_ 351 j (fs_n (by omega) (fs_n (by omega) rfl))) (Eq.trans (a := F231_ 351 j) (b := F193_ 351 j) (by rw [q232_]; exact (fl_u_ne (by omega)).trans ((fl_u_ne (by omega)))) (Eq.trans (a := F193_ 351 j) (b := F171_ 351 j) (s195_ 351 j (fs_n (by omega) (fs_n (by omega) (fs_n (by omega) (fs_n (by omega) rfl))))) (Eq.trans (a := F171_ 351 j) (b := F99_ 351 j) (by rw [q172_]; exact (fl_u_ne (by omega)).trans ((fl_u_ne (by omega)).trans ((fl_u_ne (by omega))))) (Eq.trans (a := F99_ 351 j) (b := F18_ 351 j) (s101_ 351 j (fs_n (by omega) rfl)) (show F18_ 351 j = F 351 j from (s20_ 351 j (fs_n (by omega) (fs_n (by omega) rfl)))))))))) (fun j hj => Eq.trans (Eq.trans (a := F252_ 352 j) (b := F231_ 352 j) (s254_ 352 j (fs_n (by omega) (fs_n (by omega) rfl))) (show F231_ 352 j = F193_ 352 j from (by rw [q232_]; exact (fl_u_ne (by omega)).trans ((fl_u_ne (by omega)))))) (Eq.trans (ct6_ j (by omega)) (Eq.trans (a := F171_ 352 j) (b := F99_ 352 j) (by rw [q172_]; exact (fl_u_ne (by omega)).trans ((fl_u_ne (by omega)).trans ((fl_u_ne (by omega))))) (Eq.trans (a := F99_ 352 j) (b := F18_ 352 j) (s101_ 352 j (fs_n (by omega) rfl)) (show F18_ 352 j = F 352 j from (s20_ 352 j (fs_n (by omega) (fs_n (by omega) rfl)))))))) ((e271_).trans ct3_) (rty_cg ct4_ (fun j hj => (Eq.trans (a := F252_ 352 ((2 * F 344 17).toNat + j)) (b := F231_ 352 ((2 * F 344 17).toNat + j)) (s254_ 352 ((2 * F 344 17).toNat + j) (fs_n (by omega) (fs_n (by omega) rfl))) (show F231_ 352 ((2 * F 344 17).toNat + j) = F193_ 352 ((2 * F 344 17).toNat + j) from (by rw [q232_]; exact (fl_u_ne (by omega)).trans ((fl_u_ne (by omega)))))))), by simp only [List.length_append, List.length_singleton]; omega⟩⟩), (by omega)⟩)
            exfalso; omega
          exfalso; omega
        refine ga_aload_n (v := .ref 344) hm_182 rfl rfl rfl ?_
        refine fl_iconst hm_182 rfl ?_
        have e272_ : F99_ 344 5 = F18_ 344 5 := (s101_ 344 5 rfl).trans (rfl)
        refine gVv (nY := 2) (F := 0) (L := 0) (As := [.int (Int32.ofInt 2)]) (b := 344) (rest := []) hm_182 rfl hm_54 rfl rfl (fl_ob sc_344) rfl rfl rfl rfl rfl (by omega) (by omega) (mc_54 hG F99_ X g100_ (K) (2) hgK rk138_ hkt (by omega) (by omega)) (fun _ _ h => False.elim h) ?_
        have b274_ : 0 ≤ F99_ 344 10 ∧ F99_ 344 10 ≤ 600 := gi_g g100_ rfl
        rintro A1_ ⟨F278_, hA_, g279_, s280_, c275_, c276_, c277_⟩
        subst hA_
        have g281_ : fs [(344, 344, 5, 5), (344, 344, 9, 10), (344, 344, 17, 17), (350, 352, 0, 100000), (383, 383, 0, 100000)] F F278_ := fs_tr g137_ s280_ rfl
        have rk282_ : rk K F278_ := rk_fs rk138_ s280_ (fun r k h => (fs_n (by omega) rfl)) (fs_n (by omega) rfl)
        try simp only [e272_] at c276_
        try simp only [e272_] at c277_
        have c276_s := c276_.1 (by omega)
        clear c276_
        refine ga_aload_n (v := .ref 344) hm_182 rfl rfl rfl ?_
        refine gIv (nY := 1) (F := 1) (L := 20) (As := []) (b := 344) (rest := []) hm_182 rfl hm_61 rfl rfl (fl_ob sc_344) rfl rfl rfl rfl rfl (by omega) (by omega) ?_
        intro f283_ l284_ h285_ h286_
        show fl_R xi_ms 61 f283_ l284_ 0 [(0, .ref 344)] [] _ _
        refine ga_aload_n (v := .ref 344) hm_61 rfl rfl rfl ?_
        refine ga_dup hm_61 rfl rfl ?_
        have e287_ : F278_ 344 5 = F18_ 344 5 := (s280_ 344 5 rfl).trans (e272_)
        refine ga_geti (z := F18_ 344 5) hm_61 rfl sc_344 rfl (e287_) ?_
        refine ga_aload_n (v := .ref 344) hm_61 rfl rfl rfl ?_
        refine gIi (nY := 1) (F := 0) (L := 0) (As := []) (b := 344) (rest := [.int (Int32.ofInt (F18_ 344 5)), .ref 344]) hm_61 rfl hm_59 rfl rfl (fl_ob sc_344) rfl rfl rfl rfl rfl (by omega) (by omega) ?_
        intro f288_ l289_ h290_ h291_
        show fl_R xi_ms 59 f288_ l289_ 0 [(0, .ref 344)] [] _ _
        refine ga_aload_n (v := .ref 344) hm_59 rfl rfl rfl ?_
        have b292_ : 0 ≤ F278_ 344 9 ∧ F278_ 344 9 ≤ 5 := gi_g g279_ rfl
        refine ga_geti (z := F278_ 344 9) hm_59 rfl sc_344 rfl (rfl) ?_
        refine fl_if_le (a := F278_ 344 9) hm_59 rfl ⟨by omega, by omega⟩ (fun h293_ => ?_) (fun h294_ => ?_)
        · exfalso; omega
        refine fl_iconst hm_59 rfl ?_
        refine fl_goto hm_59 rfl ?_
        refine gr_i hm_59 rfl rfl (ga_nb (by omega)) ?_
        clear h290_ h291_ f288_ l289_
        refine fl_if_eq hm_61 rfl ⟨by omega, by omega⟩ (fun h => absurd h (by omega)) (fun _ => ?_)
        refine fl_iconst hm_61 rfl ?_
        refine fl_goto hm_61 rfl ?_
        refine ga_iadd (a := F18_ 344 5) (b := 0) (c := F18_ 344 5) hm_61 rfl (by omega) ?_
        refine ga_puti (z := F18_ 344 5) hm_61 rfl sc_344 rfl rfl ?_
        refine gr_v hm_61 rfl rfl ?_
        clear h285_ h286_ f283_ l284_
        refine ga_aload_n (v := .ref 344) hm_182 rfl rfl rfl ?_
        refine gIi (nY := 1) (F := 0) (L := 0) (As := []) (b := 344) (rest := []) hm_182 rfl hm_59 rfl rfl (fl_ob sc_344) rfl rfl rfl rfl rfl (by omega) (by omega) ?_
        intro f295_ l296_ h297_ h298_
        show fl_R xi_ms 59 f295_ l296_ 0 [(0, .ref 344)] [] _ _
        refine ga_aload_n (v := .ref 344) hm_59 rfl rfl rfl ?_
        refine ga_geti (z := F278_ 344 9) hm_59 rfl sc_344 rfl (fl_u_ne (by omega)) ?_
        refine fl_if_le (a := F278_ 344 9) hm_59 rfl ⟨by omega, by omega⟩ (fun h299_ => ?_) (fun h300_ => ?_)
        · exfalso; omega
        refine fl_iconst hm_59 rfl ?_
        refine fl_goto hm_59 rfl ?_
        refine gr_i hm_59 rfl rfl (ga_nb (by omega)) ?_
        clear h297_ h298_ f295_ l296_
        refine fl_if_eq hm_182 rfl ⟨by omega, by omega⟩ (fun h => absurd h (by omega)) (fun _ => ?_)
        obtain ⟨F301_, q302_⟩ : ∃ F9_, F9_ = (fl_u F278_ 344 5 (F18_ 344 5)) := ⟨_, rfl⟩
        rw [← q302_]
        have g303_ : gi F301_ := by rw [q302_]; exact gi_u (g279_) rfl (by omega) (by omega)
        have g304_ : fs [(344, 344, 5, 5), (344, 344, 9, 10), (344, 344, 17, 17), (350, 352, 0, 100000), (383, 383, 0, 100000)] F F301_ := by rw [q302_]; exact fs_u (g281_) rfl
        have rk305_ : rk K F301_ := by rw [q302_]; exact rk_u (rk282_) (by omega) (by omega)
        refine gr_v hm_182 rfl rfl ?_
        have e306_ : F301_ 344 9 = F278_ 344 9 := by rw [q302_]; exact fl_u_ne (by omega)
        have e307_ : F301_ 344 10 = F278_ 344 10 := by rw [q302_]; exact fl_u_ne (by omega)
        have e308_ : F301_ 344 5 = F18_ 344 5 := by rw [q302_]; exact fl_u_eq
        have b309_ : 0 ≤ F278_ 344 10 ∧ F278_ 344 10 ≤ 600 := gi_g g279_ rfl
        exact Or.inl ⟨F301_, rfl, g303_, g304_, (by omega), (⟨by intro h0_; have hs_ := c276_s; rw [sp_q1, if_neg (by omega)]; rw [c16_, pb_r]; rw [sp_new, if_pos (by omega), (ra_fi (by have x_ := (rpn_fs (rpn_fs hl s20_ (fun _ => (fs_n (by omega) (fs_n (by omega) rfl))) (fs_n (by omega) (fs_n (by omega) rfl))) s101_ (fun _ => (fs_n (by omega) rfl)) (fs_n (by omega) rfl)); rw [e147_] at x_; exact x_) c95_ c149_ c150_ c151_), if_neg (by omega)]; show Sum.inl (2, K 4 _) = _; congr 2 <;> omega, fun h0_ => by exfalso; omega⟩), (by omega)⟩
      exfalso; omega
    refine ga_aload_n (v := .ref 344) hm_182 rfl rfl rfl ?_
    refine fl_iconst hm_182 rfl ?_
    have b310_ : 0 ≤ F 344 5 ∧ F 344 5 ≤ 600 := gi_g hgi rfl
    refine gVv (nY := 2) (F := 0) (L := 0) (As := [.int (Int32.ofInt 1)]) (b := 344) (rest := []) hm_182 rfl hm_54 rfl rfl (fl_ob sc_344) rfl rfl rfl rfl rfl (by omega) (by omega) (mc_54 hG F X hgi (K) (1) hgK hrk hkt (by omega) (by omega)) (fun _ _ h => False.elim h) ?_
    have b312_ : 0 ≤ F 344 10 ∧ F 344 10 ≤ 600 := gi_g hgi rfl
    rintro A1_ ⟨F316_, hA_, g317_, s318_, c313_, c314_, c315_⟩
    subst hA_
    have g319_ : fs [(344, 344, 5, 5), (344, 344, 9, 10), (344, 344, 17, 17), (350, 352, 0, 100000), (383, 383, 0, 100000)] F F316_ := fs_tr fs_refl s318_ rfl
    have rk320_ : rk K F316_ := rk_fs hrk s318_ (fun r k h => (fs_n (by omega) rfl)) (fs_n (by omega) rfl)
    have c314_s := c314_.1 (by omega)
    clear c314_
    refine ga_aload_n (v := .ref 344) hm_182 rfl rfl rfl ?_
    refine fl_bipush hm_182 rfl rfl ?_
    have e321_ : F316_ 344 5 = F 344 5 := (s318_ 344 5 rfl).trans (rfl)
    refine gVv (nY := 2) (F := 2) (L := 41) (As := [.int (Int32.ofInt 40)]) (b := 344) (rest := []) hm_182 rfl hm_51 rfl rfl (fl_ob sc_344) rfl rfl rfl rfl rfl (by omega) (by omega) (mc_51 hG F316_ X g317_ (K) (40) (0) hgK rk320_ hkt (by omega) (by omega) (by omega)) (fun _ _ h => False.elim h) ?_
    have b323_ : 0 ≤ F316_ 344 10 ∧ F316_ 344 10 ≤ 600 := gi_g g317_ rfl
    have b324_ : 0 ≤ F316_ 344 9 ∧ F316_ 344 9 ≤ 5 := gi_g g317_ rfl
    rintro A1_ (⟨F328_, hA_, g329_, s330_, c325_, c326_, c327_⟩ | ⟨F334_, hA_, g335_, s336_, c331_, c332_, c333_⟩)
    ·
      subst hA_
      have g337_ : fs [(344, 344, 5, 5), (344, 344, 9, 10), (344, 344, 17, 17), (350, 352, 0, 100000), (383, 383, 0, 100000)] F F328_ := fs_tr g319_ s330_ rfl
      have rk338_ : rk K F328_ := rk_fs rk320_ s330_ (fun r k h => (fs_n (by omega) (fs_n (by omega) rfl))) (fs_n (by omega) (fs_n (by omega) rfl))
      try simp only [e321_] at c326_
      have c326_k := c326_.2 (by omega)
      clear c326_
      refine ga_aload_n (v := .ref 344) hm_182 rfl rfl rfl ?_
      have b339_ : 0 ≤ F328_ 344 5 ∧ F328_ 344 5 ≤ 600 := gi_g g329_ rfl
      refine gVl (nY := 3) (F := 2) (L := 46) (As := []) (b := 344) (rest := []) hm_182 rfl hm_58 rfl rfl (fl_ob sc_344) rfl rfl rfl rfl rfl (by omega) (by omega) (mc_58 hG F328_ X g329_ (K) hgK rk338_ hkt (by omega)) (fun _ _ h => False.elim h) ?_
      have b341_ : 0 ≤ F328_ 344 10 ∧ F328_ 344 10 ≤ 600 := gi_g g329_ rfl
      have b342_ : 0 ≤ F328_ 344 9 ∧ F328_ 344 9 ≤ 5 := gi_g g329_ rfl
      rintro z340_ A1_ (⟨F347_, hA_, g348_, s349_, c343_, c344_, c345_, c346_⟩ | ⟨F357_, hA_, g358_, s359_, c350_, c351_, c352_, c353_, c354_, c355_, c356_⟩)
      ·
        subst hA_
        have g360_ : fs [(344, 344, 5, 5), (344, 344, 9, 10), (344, 344, 17, 17), (350, 352, 0, 100000), (383, 383, 0, 100000)] F F347_ := fs_tr g337_ s349_ rfl
        have rk361_ : rk K F347_ := rk_fs rk338_ s349_ (fun r k h => (fs_n (by omega) rfl)) (fs_n (by omega) rfl)
        have c344_k := c344_.2 (by omega)
        clear c344_
        refine ga_lstore_n (lv2 := [(1, .long (Int64.ofInt z340_)), (0, .ref 344)]) hm_182 rfl (Nat.le_of_ble_eq_true rfl) rfl ?_
        refine ga_aload_n (v := .ref 344) hm_182 rfl rfl rfl ?_
        refine gIi (nY := 1) (F := 0) (L := 0) (As := []) (b := 344) (rest := []) hm_182 rfl hm_59 rfl rfl (fl_ob sc_344) rfl rfl rfl rfl rfl (by omega) (by omega) ?_
        intro f362_ l363_ h364_ h365_
        show fl_R xi_ms 59 f362_ l363_ 0 [(0, .ref 344)] [] _ _
        refine ga_aload_n (v := .ref 344) hm_59 rfl rfl rfl ?_
        have b366_ : 0 ≤ F347_ 344 9 ∧ F347_ 344 9 ≤ 5 := gi_g g348_ rfl
        refine ga_geti (z := F347_ 344 9) hm_59 rfl sc_344 rfl (rfl) ?_
        refine fl_if_le (a := F347_ 344 9) hm_59 rfl ⟨by omega, by omega⟩ (fun h367_ => ?_) (fun h368_ => ?_)
        · exfalso; omega
        refine fl_iconst hm_59 rfl ?_
        refine fl_goto hm_59 rfl ?_
        refine gr_i hm_59 rfl rfl (ga_nb (by omega)) ?_
        clear h364_ h365_ f362_ l363_
        refine fl_if_ne hm_182 rfl ⟨by omega, by omega⟩ (fun _ => ?_) (fun h => absurd (by omega) h)
        refine ga_aload_n (v := .ref 344) hm_182 rfl rfl rfl ?_
        refine gIv (nY := 1) (F := 1) (L := 20) (As := []) (b := 344) (rest := []) hm_182 rfl hm_61 rfl rfl (fl_ob sc_344) rfl rfl rfl rfl rfl (by omega) (by omega) ?_
        intro f369_ l370_ h371_ h372_
        show fl_R xi_ms 61 f369_ l370_ 0 [(0, .ref 344)] [] _ _
        refine ga_aload_n (v := .ref 344) hm_61 rfl rfl rfl ?_
        refine ga_dup hm_61 rfl rfl ?_
        have e373_ : F347_ 344 5 = F328_ 344 5 := (s349_ 344 5 rfl).trans (rfl)
        refine ga_geti (z := F328_ 344 5) hm_61 rfl sc_344 rfl (e373_) ?_
        refine ga_aload_n (v := .ref 344) hm_61 rfl rfl rfl ?_
        refine gIi (nY := 1) (F := 0) (L := 0) (As := []) (b := 344) (rest := [.int (Int32.ofInt (F328_ 344 5)), .ref 344]) hm_61 rfl hm_59 rfl rfl (fl_ob sc_344) rfl rfl rfl rfl rfl (by omega) (by omega) ?_
        intro f374_ l375_ h376_ h377_
        show fl_R xi_ms 59 f374_ l375_ 0 [(0, .ref 344)] [] _ _
        refine ga_aload_n (v := .ref 344) hm_59 rfl rfl rfl ?_
        refine ga_geti (z := F347_ 344 9) hm_59 rfl sc_344 rfl (rfl) ?_
        refine fl_if_le (a := F347_ 344 9) hm_59 rfl ⟨by omega, by omega⟩ (fun h378_ => ?_) (fun h379_ => ?_)
        · exfalso; omega
        refine fl_iconst hm_59 rfl ?_
        refine fl_goto hm_59 rfl ?_
        refine gr_i hm_59 rfl rfl (ga_nb (by omega)) ?_
        clear h376_ h377_ f374_ l375_
        refine fl_if_eq hm_61 rfl ⟨by omega, by omega⟩ (fun h => absurd h (by omega)) (fun _ => ?_)
        refine fl_iconst hm_61 rfl ?_
        refine fl_goto hm_61 rfl ?_
        refine ga_iadd (a := F328_ 344 5) (b := 0) (c := F328_ 344 5) hm_61 rfl (by omega) ?_
        refine ga_puti (z := F328_ 344 5) hm_61 rfl sc_344 rfl rfl ?_
        refine gr_v hm_61 rfl rfl ?_
        clear h371_ h372_ f369_ l370_
        refine ga_aload_n (v := .ref 344) hm_182 rfl rfl rfl ?_
        refine gIi (nY := 1) (F := 0) (L := 0) (As := []) (b := 344) (rest := []) hm_182 rfl hm_59 rfl rfl (fl_ob sc_344) rfl rfl rfl rfl rfl (by omega) (by omega) ?_
        intro f380_ l381_ h382_ h383_
        show fl_R xi_ms 59 f380_ l381_ 0 [(0, .ref 344)] [] _ _
        refine ga_aload_n (v := .ref 344) hm_59 rfl rfl rfl ?_
        refine ga_geti (z := F347_ 344 9) hm_59 rfl sc_344 rfl (fl_u_ne (by omega)) ?_
        refine fl_if_le (a := F347_ 344 9) hm_59 rfl ⟨by omega, by omega⟩ (fun h384_ => ?_) (fun h385_ => ?_)
        · exfalso; omega
        refine fl_iconst hm_59 rfl ?_
        refine fl_goto hm_59 rfl ?_
        refine gr_i hm_59 rfl rfl (ga_nb (by omega)) ?_
        clear h382_ h383_ f380_ l381_
        refine fl_if_eq hm_182 rfl ⟨by omega, by omega⟩ (fun h => absurd h (by omega)) (fun _ => ?_)
        obtain ⟨F386_, q387_⟩ : ∃ F9_, F9_ = (fl_u F347_ 344 5 (F328_ 344 5)) := ⟨_, rfl⟩
        rw [← q387_]
        have g388_ : gi F386_ := by rw [q387_]; exact gi_u (g348_) rfl (by omega) (by omega)
        have g389_ : fs [(344, 344, 5, 5), (344, 344, 9, 10), (344, 344, 17, 17), (350, 352, 0, 100000), (383, 383, 0, 100000)] F F386_ := by rw [q387_]; exact fs_u (g360_) rfl
        have rk390_ : rk K F386_ := by rw [q387_]; exact rk_u (rk361_) (by omega) (by omega)
        refine gr_v hm_182 rfl rfl ?_
        have e391_ : F386_ 344 9 = F347_ 344 9 := by rw [q387_]; exact fl_u_ne (by omega)
        have e392_ : F386_ 344 10 = F347_ 344 10 := by rw [q387_]; exact fl_u_ne (by omega)
        have e393_ : F386_ 344 5 = F328_ 344 5 := by rw [q387_]; exact fl_u_eq
        have b394_ : 0 ≤ F347_ 344 10 ∧ F347_ 344 10 ≤ 600 := gi_g g348_ rfl
        exact Or.inl ⟨F386_, rfl, g388_, g389_, (by omega), (⟨by intro h0_; have hs_ := c314_s; rw [sp_q1, if_pos (by omega), pf]; congr 2 <;> omega, fun h0_ => by exfalso; omega⟩), (by omega)⟩
      exfalso; omega
    exfalso; omega
  refine ga_aload_n (v := .ref 344) hm_182 rfl rfl rfl ?_
  have b395_ : 0 ≤ F 344 17 ∧ F 344 17 ≤ 6 := gi_g hgi rfl
  refine ga_geti (z := F 344 17) hm_182 rfl sc_344 rfl (rfl) ?_
  refine fl_bipush hm_182 rfl rfl ?_
  refine fx_icmp_ne (a := F 344 17) (b := 6) hm_182 rfl ⟨by omega, by omega⟩ ⟨by omega, by omega⟩ (fun h396_ => ?_) (fun h397_ => ?_)
  ·
    refine ga_aload_n (v := .ref 344) hm_182 rfl rfl rfl ?_
    refine fl_bipush hm_182 rfl rfl ?_
    have b398_ : 0 ≤ F 344 5 ∧ F 344 5 ≤ 600 := gi_g hgi rfl
    refine gVv (nY := 2) (F := 2) (L := 41) (As := [.int (Int32.ofInt 40)]) (b := 344) (rest := []) hm_182 rfl hm_51 rfl rfl (fl_ob sc_344) rfl rfl rfl rfl rfl (by omega) (by omega) (mc_51 hG F X hgi (K) (40) (0) hgK hrk hkt (by omega) (by omega) (by omega)) (fun _ _ h => False.elim h) ?_
    have b400_ : 0 ≤ F 344 10 ∧ F 344 10 ≤ 600 := gi_g hgi rfl
    rintro A1_ (⟨F404_, hA_, g405_, s406_, c401_, c402_, c403_⟩ | ⟨F410_, hA_, g411_, s412_, c407_, c408_, c409_⟩)
    ·
      subst hA_
      have g413_ : fs [(344, 344, 5, 5), (344, 344, 9, 10), (344, 344, 17, 17), (350, 352, 0, 100000), (383, 383, 0, 100000)] F F404_ := fs_tr fs_refl s406_ rfl
      have rk414_ : rk K F404_ := rk_fs hrk s406_ (fun r k h => (fs_n (by omega) (fs_n (by omega) rfl))) (fs_n (by omega) (fs_n (by omega) rfl))
      have c402_k := c402_.2 (by omega)
      clear c402_
      refine ga_aload_n (v := .ref 344) hm_182 rfl rfl rfl ?_
      have b415_ : 0 ≤ F404_ 344 5 ∧ F404_ 344 5 ≤ 600 := gi_g g405_ rfl
      refine gVl (nY := 3) (F := 2) (L := 46) (As := []) (b := 344) (rest := []) hm_182 rfl hm_58 rfl rfl (fl_ob sc_344) rfl rfl rfl rfl rfl (by omega) (by omega) (mc_58 hG F404_ X g405_ (K) hgK rk414_ hkt (by omega)) (fun _ _ h => False.elim h) ?_
      have b417_ : 0 ≤ F404_ 344 10 ∧ F404_ 344 10 ≤ 600 := gi_g g405_ rfl
      have b418_ : 0 ≤ F404_ 344 9 ∧ F404_ 344 9 ≤ 5 := gi_g g405_ rfl
      rintro z416_ A1_ (⟨F423_, hA_, g424_, s425_, c419_, c420_, c421_, c422_⟩ | ⟨F433_, hA_, g434_, s435_, c426_, c427_, c428_, c429_, c430_, c431_, c432_⟩)
      ·
        subst hA_
        have g436_ : fs [(344, 344, 5, 5), (344, 344, 9, 10), (344, 344, 17, 17), (350, 352, 0, 100000), (383, 383, 0, 100000)] F F423_ := fs_tr g413_ s425_ rfl
        have rk437_ : rk K F423_ := rk_fs rk414_ s425_ (fun r k h => (fs_n (by omega) rfl)) (fs_n (by omega) rfl)
        have c420_k := c420_.2 (by omega)
        clear c420_
        refine ga_lstore_n (lv2 := [(1, .long (Int64.ofInt z416_)), (0, .ref 344)]) hm_182 rfl (Nat.le_of_ble_eq_true rfl) rfl ?_
        refine ga_aload_n (v := .ref 344) hm_182 rfl rfl rfl ?_
        refine gIi (nY := 1) (F := 0) (L := 0) (As := []) (b := 344) (rest := []) hm_182 rfl hm_59 rfl rfl (fl_ob sc_344) rfl rfl rfl rfl rfl (by omega) (by omega) ?_
        intro f438_ l439_ h440_ h441_
        show fl_R xi_ms 59 f438_ l439_ 0 [(0, .ref 344)] [] _ _
        refine ga_aload_n (v := .ref 344) hm_59 rfl rfl rfl ?_
        have b442_ : 0 ≤ F423_ 344 9 ∧ F423_ 344 9 ≤ 5 := gi_g g424_ rfl
        refine ga_geti (z := F423_ 344 9) hm_59 rfl sc_344 rfl (rfl) ?_
        refine fl_if_le (a := F423_ 344 9) hm_59 rfl ⟨by omega, by omega⟩ (fun h443_ => ?_) (fun h444_ => ?_)
        · exfalso; omega
        refine fl_iconst hm_59 rfl ?_
        refine fl_goto hm_59 rfl ?_
        refine gr_i hm_59 rfl rfl (ga_nb (by omega)) ?_
        clear h440_ h441_ f438_ l439_
        refine fl_if_ne hm_182 rfl ⟨by omega, by omega⟩ (fun _ => ?_) (fun h => absurd (by omega) h)
        refine ga_aload_n (v := .ref 344) hm_182 rfl rfl rfl ?_
        refine gIv (nY := 1) (F := 1) (L := 20) (As := []) (b := 344) (rest := []) hm_182 rfl hm_61 rfl rfl (fl_ob sc_344) rfl rfl rfl rfl rfl (by omega) (by omega) ?_
        intro f445_ l446_ h447_ h448_
        show fl_R xi_ms 61 f445_ l446_ 0 [(0, .ref 344)] [] _ _
        refine ga_aload_n (v := .ref 344) hm_61 rfl rfl rfl ?_
        refine ga_dup hm_61 rfl rfl ?_
        have e449_ : F423_ 344 5 = F404_ 344 5 := (s425_ 344 5 rfl).trans (rfl)
        refine ga_geti (z := F404_ 344 5) hm_61 rfl sc_344 rfl (e449_) ?_
        refine ga_aload_n (v := .ref 344) hm_61 rfl rfl rfl ?_
        refine gIi (nY := 1) (F := 0) (L := 0) (As := []) (b := 344) (rest := [.int (Int32.ofInt (F404_ 344 5)), .ref 344]) hm_61 rfl hm_59 rfl rfl (fl_ob sc_344) rfl rfl rfl rfl rfl (by omega) (by omega) ?_
        intro f450_ l451_ h452_ h453_
        show fl_R xi_ms 59 f450_ l451_ 0 [(0, .ref 344)] [] _ _
        refine ga_aload_n (v := .ref 344) hm_59 rfl rfl rfl ?_
        refine ga_geti (z := F423_ 344 9) hm_59 rfl sc_344 rfl (rfl) ?_
        refine fl_if_le (a := F423_ 344 9) hm_59 rfl ⟨by omega, by omega⟩ (fun h454_ => ?_) (fun h455_ => ?_)
        · exfalso; omega
        refine fl_iconst hm_59 rfl ?_
        refine fl_goto hm_59 rfl ?_
        refine gr_i hm_59 rfl rfl (ga_nb (by omega)) ?_
        clear h452_ h453_ f450_ l451_
        refine fl_if_eq hm_61 rfl ⟨by omega, by omega⟩ (fun h => absurd h (by omega)) (fun _ => ?_)
        refine fl_iconst hm_61 rfl ?_
        refine fl_goto hm_61 rfl ?_
        refine ga_iadd (a := F404_ 344 5) (b := 0) (c := F404_ 344 5) hm_61 rfl (by omega) ?_
        refine ga_puti (z := F404_ 344 5) hm_61 rfl sc_344 rfl rfl ?_
        refine gr_v hm_61 rfl rfl ?_
        clear h447_ h448_ f445_ l446_
        refine ga_aload_n (v := .ref 344) hm_182 rfl rfl rfl ?_
        refine gIi (nY := 1) (F := 0) (L := 0) (As := []) (b := 344) (rest := []) hm_182 rfl hm_59 rfl rfl (fl_ob sc_344) rfl rfl rfl rfl rfl (by omega) (by omega) ?_
        intro f456_ l457_ h458_ h459_
        show fl_R xi_ms 59 f456_ l457_ 0 [(0, .ref 344)] [] _ _
        refine ga_aload_n (v := .ref 344) hm_59 rfl rfl rfl ?_
        refine ga_geti (z := F423_ 344 9) hm_59 rfl sc_344 rfl (fl_u_ne (by omega)) ?_
        refine fl_if_le (a := F423_ 344 9) hm_59 rfl ⟨by omega, by omega⟩ (fun h460_ => ?_) (fun h461_ => ?_)
        · exfalso; omega
        refine fl_iconst hm_59 rfl ?_
        refine fl_goto hm_59 rfl ?_
        refine gr_i hm_59 rfl rfl (ga_nb (by omega)) ?_
        clear h458_ h459_ f456_ l457_
        refine fl_if_eq hm_182 rfl ⟨by omega, by omega⟩ (fun h => absurd h (by omega)) (fun _ => ?_)
        obtain ⟨F462_, q463_⟩ : ∃ F9_, F9_ = (fl_u F423_ 344 5 (F404_ 344 5)) := ⟨_, rfl⟩
        rw [← q463_]
        have g464_ : gi F462_ := by rw [q463_]; exact gi_u (g424_) rfl (by omega) (by omega)
        have g465_ : fs [(344, 344, 5, 5), (344, 344, 9, 10), (344, 344, 17, 17), (350, 352, 0, 100000), (383, 383, 0, 100000)] F F462_ := by rw [q463_]; exact fs_u (g436_) rfl
        have rk466_ : rk K F462_ := by rw [q463_]; exact rk_u (rk437_) (by omega) (by omega)
        refine gr_v hm_182 rfl rfl ?_
        have e467_ : F462_ 344 9 = F423_ 344 9 := by rw [q463_]; exact fl_u_ne (by omega)
        have e468_ : F462_ 344 10 = F423_ 344 10 := by rw [q463_]; exact fl_u_ne (by omega)
        have e469_ : F462_ 344 5 = F404_ 344 5 := by rw [q463_]; exact fl_u_eq
        have b470_ : 0 ≤ F423_ 344 10 ∧ F423_ 344 10 ≤ 600 := gi_g g424_ rfl
        exact Or.inl ⟨F462_, rfl, g464_, g465_, (by omega), (⟨fun h0_ => by exfalso; omega, fun h0_ => by constructor <;> omega⟩), (by omega)⟩
      exfalso; omega
    exfalso; omega
  refine ga_aload_n (v := .ref 344) hm_182 rfl rfl rfl ?_
  refine fl_iconst hm_182 rfl ?_
  have b471_ : 0 ≤ F 344 5 ∧ F 344 5 ≤ 600 := gi_g hgi rfl
  refine gVv (nY := 2) (F := 0) (L := 0) (As := [.int (Int32.ofInt 1)]) (b := 344) (rest := []) hm_182 rfl hm_54 rfl rfl (fl_ob sc_344) rfl rfl rfl rfl rfl (by omega) (by omega) (mc_54 hG F X hgi (K) (1) hgK hrk hkt (by omega) (by omega)) (fun _ _ h => False.elim h) ?_
  have b473_ : 0 ≤ F 344 10 ∧ F 344 10 ≤ 600 := gi_g hgi rfl
  rintro A1_ ⟨F477_, hA_, g478_, s479_, c474_, c475_, c476_⟩
  subst hA_
  have g480_ : fs [(344, 344, 5, 5), (344, 344, 9, 10), (344, 344, 17, 17), (350, 352, 0, 100000), (383, 383, 0, 100000)] F F477_ := fs_tr fs_refl s479_ rfl
  have rk481_ : rk K F477_ := rk_fs hrk s479_ (fun r k h => (fs_n (by omega) rfl)) (fs_n (by omega) rfl)
  have c475_k := c475_.2 (by omega)
  clear c475_
  refine ga_aload_n (v := .ref 344) hm_182 rfl rfl rfl ?_
  refine fl_bipush hm_182 rfl rfl ?_
  have e482_ : F477_ 344 5 = F 344 5 := (s479_ 344 5 rfl).trans (rfl)
  refine gVv (nY := 2) (F := 2) (L := 41) (As := [.int (Int32.ofInt 40)]) (b := 344) (rest := []) hm_182 rfl hm_51 rfl rfl (fl_ob sc_344) rfl rfl rfl rfl rfl (by omega) (by omega) (mc_51 hG F477_ X g478_ (K) (40) (0) hgK rk481_ hkt (by omega) (by omega) (by omega)) (fun _ _ h => False.elim h) ?_
  have b484_ : 0 ≤ F477_ 344 10 ∧ F477_ 344 10 ≤ 600 := gi_g g478_ rfl
  have b485_ : 0 ≤ F477_ 344 9 ∧ F477_ 344 9 ≤ 5 := gi_g g478_ rfl
  rintro A1_ (⟨F489_, hA_, g490_, s491_, c486_, c487_, c488_⟩ | ⟨F495_, hA_, g496_, s497_, c492_, c493_, c494_⟩)
  ·
    subst hA_
    have g498_ : fs [(344, 344, 5, 5), (344, 344, 9, 10), (344, 344, 17, 17), (350, 352, 0, 100000), (383, 383, 0, 100000)] F F489_ := fs_tr g480_ s491_ rfl
    have rk499_ : rk K F489_ := rk_fs rk481_ s491_ (fun r k h => (fs_n (by omega) (fs_n (by omega) rfl))) (fs_n (by omega) (fs_n (by omega) rfl))
    try simp only [e482_] at c487_
    have c487_k := c487_.2 (by omega)
    clear c487_
    refine ga_aload_n (v := .ref 344) hm_182 rfl rfl rfl ?_
    have b500_ : 0 ≤ F489_ 344 5 ∧ F489_ 344 5 ≤ 600 := gi_g g490_ rfl
    refine gVl (nY := 3) (F := 2) (L := 46) (As := []) (b := 344) (rest := []) hm_182 rfl hm_58 rfl rfl (fl_ob sc_344) rfl rfl rfl rfl rfl (by omega) (by omega) (mc_58 hG F489_ X g490_ (K) hgK rk499_ hkt (by omega)) (fun _ _ h => False.elim h) ?_
    have b502_ : 0 ≤ F489_ 344 10 ∧ F489_ 344 10 ≤ 600 := gi_g g490_ rfl
    have b503_ : 0 ≤ F489_ 344 9 ∧ F489_ 344 9 ≤ 5 := gi_g g490_ rfl
    rintro z501_ A1_ (⟨F508_, hA_, g509_, s510_, c504_, c505_, c506_, c507_⟩ | ⟨F518_, hA_, g519_, s520_, c511_, c512_, c513_, c514_, c515_, c516_, c517_⟩)
    ·
      subst hA_
      have g521_ : fs [(344, 344, 5, 5), (344, 344, 9, 10), (344, 344, 17, 17), (350, 352, 0, 100000), (383, 383, 0, 100000)] F F508_ := fs_tr g498_ s510_ rfl
      have rk522_ : rk K F508_ := rk_fs rk499_ s510_ (fun r k h => (fs_n (by omega) rfl)) (fs_n (by omega) rfl)
      have c505_k := c505_.2 (by omega)
      clear c505_
      refine ga_lstore_n (lv2 := [(1, .long (Int64.ofInt z501_)), (0, .ref 344)]) hm_182 rfl (Nat.le_of_ble_eq_true rfl) rfl ?_
      refine ga_aload_n (v := .ref 344) hm_182 rfl rfl rfl ?_
      refine gIi (nY := 1) (F := 0) (L := 0) (As := []) (b := 344) (rest := []) hm_182 rfl hm_59 rfl rfl (fl_ob sc_344) rfl rfl rfl rfl rfl (by omega) (by omega) ?_
      intro f523_ l524_ h525_ h526_
      show fl_R xi_ms 59 f523_ l524_ 0 [(0, .ref 344)] [] _ _
      refine ga_aload_n (v := .ref 344) hm_59 rfl rfl rfl ?_
      have b527_ : 0 ≤ F508_ 344 9 ∧ F508_ 344 9 ≤ 5 := gi_g g509_ rfl
      refine ga_geti (z := F508_ 344 9) hm_59 rfl sc_344 rfl (rfl) ?_
      refine fl_if_le (a := F508_ 344 9) hm_59 rfl ⟨by omega, by omega⟩ (fun h528_ => ?_) (fun h529_ => ?_)
      · exfalso; omega
      refine fl_iconst hm_59 rfl ?_
      refine fl_goto hm_59 rfl ?_
      refine gr_i hm_59 rfl rfl (ga_nb (by omega)) ?_
      clear h525_ h526_ f523_ l524_
      refine fl_if_ne hm_182 rfl ⟨by omega, by omega⟩ (fun _ => ?_) (fun h => absurd (by omega) h)
      refine ga_aload_n (v := .ref 344) hm_182 rfl rfl rfl ?_
      refine gIv (nY := 1) (F := 1) (L := 20) (As := []) (b := 344) (rest := []) hm_182 rfl hm_61 rfl rfl (fl_ob sc_344) rfl rfl rfl rfl rfl (by omega) (by omega) ?_
      intro f530_ l531_ h532_ h533_
      show fl_R xi_ms 61 f530_ l531_ 0 [(0, .ref 344)] [] _ _
      refine ga_aload_n (v := .ref 344) hm_61 rfl rfl rfl ?_
      refine ga_dup hm_61 rfl rfl ?_
      have e534_ : F508_ 344 5 = F489_ 344 5 := (s510_ 344 5 rfl).trans (rfl)
      refine ga_geti (z := F489_ 344 5) hm_61 rfl sc_344 rfl (e534_) ?_
      refine ga_aload_n (v := .ref 344) hm_61 rfl rfl rfl ?_
      refine gIi (nY := 1) (F := 0) (L := 0) (As := []) (b := 344) (rest := [.int (Int32.ofInt (F489_ 344 5)), .ref 344]) hm_61 rfl hm_59 rfl rfl (fl_ob sc_344) rfl rfl rfl rfl rfl (by omega) (by omega) ?_
      intro f535_ l536_ h537_ h538_
      show fl_R xi_ms 59 f535_ l536_ 0 [(0, .ref 344)] [] _ _
      refine ga_aload_n (v := .ref 344) hm_59 rfl rfl rfl ?_
      refine ga_geti (z := F508_ 344 9) hm_59 rfl sc_344 rfl (rfl) ?_
      refine fl_if_le (a := F508_ 344 9) hm_59 rfl ⟨by omega, by omega⟩ (fun h539_ => ?_) (fun h540_ => ?_)
      · exfalso; omega
      refine fl_iconst hm_59 rfl ?_
      refine fl_goto hm_59 rfl ?_
      refine gr_i hm_59 rfl rfl (ga_nb (by omega)) ?_
      clear h537_ h538_ f535_ l536_
      refine fl_if_eq hm_61 rfl ⟨by omega, by omega⟩ (fun h => absurd h (by omega)) (fun _ => ?_)
      refine fl_iconst hm_61 rfl ?_
      refine fl_goto hm_61 rfl ?_
      refine ga_iadd (a := F489_ 344 5) (b := 0) (c := F489_ 344 5) hm_61 rfl (by omega) ?_
      refine ga_puti (z := F489_ 344 5) hm_61 rfl sc_344 rfl rfl ?_
      refine gr_v hm_61 rfl rfl ?_
      clear h532_ h533_ f530_ l531_
      refine ga_aload_n (v := .ref 344) hm_182 rfl rfl rfl ?_
      refine gIi (nY := 1) (F := 0) (L := 0) (As := []) (b := 344) (rest := []) hm_182 rfl hm_59 rfl rfl (fl_ob sc_344) rfl rfl rfl rfl rfl (by omega) (by omega) ?_
      intro f541_ l542_ h543_ h544_
      show fl_R xi_ms 59 f541_ l542_ 0 [(0, .ref 344)] [] _ _
      refine ga_aload_n (v := .ref 344) hm_59 rfl rfl rfl ?_
      refine ga_geti (z := F508_ 344 9) hm_59 rfl sc_344 rfl (fl_u_ne (by omega)) ?_
      refine fl_if_le (a := F508_ 344 9) hm_59 rfl ⟨by omega, by omega⟩ (fun h545_ => ?_) (fun h546_ => ?_)
      · exfalso; omega
      refine fl_iconst hm_59 rfl ?_
      refine fl_goto hm_59 rfl ?_
      refine gr_i hm_59 rfl rfl (ga_nb (by omega)) ?_
      clear h543_ h544_ f541_ l542_
      refine fl_if_eq hm_182 rfl ⟨by omega, by omega⟩ (fun h => absurd h (by omega)) (fun _ => ?_)
      obtain ⟨F547_, q548_⟩ : ∃ F9_, F9_ = (fl_u F508_ 344 5 (F489_ 344 5)) := ⟨_, rfl⟩
      rw [← q548_]
      have g549_ : gi F547_ := by rw [q548_]; exact gi_u (g509_) rfl (by omega) (by omega)
      have g550_ : fs [(344, 344, 5, 5), (344, 344, 9, 10), (344, 344, 17, 17), (350, 352, 0, 100000), (383, 383, 0, 100000)] F F547_ := by rw [q548_]; exact fs_u (g521_) rfl
      have rk551_ : rk K F547_ := by rw [q548_]; exact rk_u (rk522_) (by omega) (by omega)
      refine gr_v hm_182 rfl rfl ?_
      have e552_ : F547_ 344 9 = F508_ 344 9 := by rw [q548_]; exact fl_u_ne (by omega)
      have e553_ : F547_ 344 10 = F508_ 344 10 := by rw [q548_]; exact fl_u_ne (by omega)
      have e554_ : F547_ 344 5 = F489_ 344 5 := by rw [q548_]; exact fl_u_eq
      have b555_ : 0 ≤ F508_ 344 10 ∧ F508_ 344 10 ≤ 600 := gi_g g509_ rfl
      exact Or.inl ⟨F547_, rfl, g549_, g550_, (by omega), (⟨fun h0_ => by exfalso; omega, fun h0_ => by constructor <;> omega⟩), (by omega)⟩
    exfalso; omega
  exfalso; omega

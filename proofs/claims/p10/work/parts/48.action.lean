/-- the actions' terms stand for their parameters -/
def di (F : fl_N) (n : Nat) : Prop := ∀ j : Nat, j < n → cw F (39 + 13 * j + 3) (F (39 + 13 * j) 2) ∧ cw F (39 + 13 * j + 8) (F (39 + 13 * j) 2)
theorem di_fs {F F' : fl_N} {S : List (Nat × Nat × Nat × Nat)} {n : Nat} (h : di F n) (hf : fs S F F') (hS : ∀ r k, 39 ≤ r ∧ r < 39 + 13 * n → fs_in S r k = false) : di F' n := by
  intro j hj
  have h9 := h j hj
  rw [hf (39 + 13 * j) 2 (hS _ _ (by omega))]
  exact ⟨cw_fs h9.1 hf (fun r k hr => hS r k (by omega)), cw_fs h9.2 hf (fun r k hr => hS r k (by omega))⟩
theorem di_u {F : fl_N} {n a k : Nat} {z : Int} (h : di F n) (ha : a < 39 ∨ 39 + 13 * n ≤ a) : di (fl_u F a k z) n := by
  intro j hj
  have h9 := h j hj
  rw [fl_u_ne (by omega)]
  exact ⟨cw_u h9.1 (by omega), cw_u h9.2 (by omega)⟩
theorem di_add {F : fl_N} {n A : Nat} {m : Int} (h : di F n) (hA : A = 39 + 13 * n) (h1 : cw F (A + 3) m) (h2 : cw F (A + 8) m) (hm : F A 2 = m) : di F (n + 1) := by
  intro j hj
  by_cases e : j < n
  · exact h j e
  · have e2 : j = n := by omega
    subst e2
    subst hA
    rw [hm]
    exact ⟨h1, h2⟩

/- CheapPlanner$Reader.readAction -/
abbrev pq_119 (G : Nat → Nat → Option Nat) (F : fl_N) (X : xi_H) (K : fl_N) (Ac : Nat) (i : Int) (ts pl al alt : List Int) (ps : List (List Int)) : Outcome → xi_H → Prop := gqv (fun A => ∃ F' : fl_N, fl_H sh_T G F' ++ X = A ∧ gi F' ∧ fs [(1, 1, 7, 7), (15, 17, 0, 100000), (Ac, Ac + 12, 0, 100000), (119, 119, 2, 3)] F F' ∧ (∃ al2 alt2, (sp_action K ts pl ps al (F 1 7) = .inr (F' 1 7, al2) ∧ (al2.length : Int) = i + 1) ∧ rep (F' 16) (F' 15 2) al2 ∧ rep (F' 17) (F' 15 2) alt2) ∧ (0 ≤ F' 1 7 ∧ F' 1 7 ≤ K 1 6 - 1) ∧ (di F' (i + 1).toNat) ∧ (acr F' Ac (act_d K ts pl ps (F 1 7)))) (fun j A => ∃ F' : fl_N, (387 + X.length = j ∧ fl_H sh_T G F' ++ (X ++ [gx 14]) = A) ∧ gi F' ∧ fs [(1, 1, 7, 8), (15, 17, 0, 100000), (Ac, Ac + 12, 0, 100000), (119, 119, 2, 3)] F F' ∧ (∃ e, sp_action K ts pl ps al (F 1 7) = .inl e ∧ F' 1 8 = e.1 + 10 * e.2))
theorem mc_119 {G : Nat → Nat → Option Nat} (hG : gg G) (F : fl_N) (X : xi_H) (hgi : gi F) (K : fl_N) (Ac : Nat) (i : Int) (ts pl al alt : List Int) (ps : List (List Int)) (hgK : gi K) (hK : tkh K F) (hko : tko K) (hp : 0 ≤ F 1 7 ∧ F 1 7 ≤ K 1 6 - 1) (hA : Ac = 39 + 13 * i.toNat) (hi : 0 ≤ i ∧ i < 5) (hN : nm Ac 3) (hC1 : cl (Ac + 3) 4 2 (-1)) (hC2 : cl (Ac + 8) 4 2 0) (hts : rep (F 9) (F 8 2) ts) (hpl : rep (F 12) (F 11 2) pl) (hps : prd F ps) (hpn : pl.length = ps.length) (hal : rep (F 16) (F 15 2) al) (hat : rep (F 17) (F 15 2) alt) (hai : (al.length : Int) = i) (hdi : di F i.toNat) : fl_M xi_ms 119 11 215 [.ref 118, .int (Int32.ofInt i)] (fl_H sh_T G F ++ X) (pq_119 G F X K Ac i ts pl al alt ps) := by
  intro fr lo hfr hlo
  show fl_R xi_ms 119 fr lo 0 [(0, .ref 118), (1, .int (Int32.ofInt i))] [] _ _
  have hpl1 := hpl.1
  have hb11 : 0 ≤ F 11 2 ∧ F 11 2 ≤ 6 := gi_g hgi rfl
  have hr_Ac := hN.2.2
  refine ga_aload_n (v := .ref 118) hm_119 rfl rfl rfl ?_
  refine ga_getr (b := 1) hm_119 rfl sc_118 rfl ?_
  refine fl_iconst hm_119 rfl ?_
  have b1_ : 0 ≤ F 1 7 ∧ F 1 7 ≤ 600 := gi_g hgi rfl
  refine gVv (nY := 2) (F := 7) (L := 121) (As := [.int (Int32.ofInt 0)]) (b := 1) (rest := []) hm_119 rfl hm_24 rfl rfl (fl_ob sc_1) rfl rfl rfl rfl rfl (by omega) (by omega) (mc_24 hG F X hgi (K) (0) hgK hK hko (by omega) (by omega)) ?_ ?_
  ·
    rintro j_ A1_ ⟨F3_, ⟨hJ_, hA_⟩, g4_, s5_, c2_⟩
    subst hA_
    subst hJ_
    refine ⟨rfl, ?_⟩
    refine gw_v ?_
    have g6_ : fs [(1, 1, 7, 8), (15, 17, 0, 100000), (Ac, Ac + 12, 0, 100000), (119, 119, 2, 3)] F F3_ := fs_tr fs_refl s5_ (by simp [fs_le]; try omega)
    have b7_ : 0 ≤ F3_ 1 8 ∧ F3_ 1 8 ≤ 100000 := gi_g g4_ rfl
    exact ⟨F3_, ⟨rfl, rfl⟩, g4_, g6_, (by obtain ⟨e, c1, c2⟩ := c2_; exact ⟨e, (by (try simp only [Int.reduceToNat] at c1); rw [sp_action]; rw [c1]; try rfl), c2⟩)⟩
  rintro A1_ ⟨F11_, hA_, g12_, s13_, c9_, c10_⟩
  subst hA_
  have g14_ : fs [(1, 1, 7, 7), (15, 17, 0, 100000), (Ac, Ac + 12, 0, 100000), (119, 119, 2, 3)] F F11_ := fs_tr fs_refl s13_ (by simp [fs_le]; try omega)
  have tk15_ : tkh K F11_ := tkh_fs hK s13_ (fun r k h => (fs_n (by omega) rfl)) (fs_n (by omega) rfl)
  refine ga_aload_n (v := .ref 118) hm_119 rfl rfl rfl ?_
  refine ga_getr (b := 1) hm_119 rfl sc_118 rfl ?_
  refine ga_ldcs hm_119 rfl ?_
  have b16_ : 0 ≤ F11_ 1 7 ∧ F11_ 1 7 ≤ 600 := gi_g g12_ rfl
  refine gVv (nY := 2) (F := 7) (L := 123) (As := [.retAddr 6]) (b := 1) (rest := []) hm_119 rfl hm_155 rfl rfl (fl_ob sc_1) rfl rfl rfl rfl rfl (by omega) (by omega) (mc_155 hG F11_ X g12_ (K) (6) ([58, 97, 99, 116, 105, 111, 110]) hgK tk15_ hko (by omega) (rfl) (by decide)) ?_ ?_
  ·
    rintro j_ A1_ ⟨F18_, ⟨hJ_, hA_⟩, g19_, s20_, c17_⟩
    subst hA_
    subst hJ_
    refine ⟨rfl, ?_⟩
    refine gw_v ?_
    have g21_ : fs [(1, 1, 7, 8), (15, 17, 0, 100000), (Ac, Ac + 12, 0, 100000), (119, 119, 2, 3)] F F18_ := fs_tr (fs_tr fs_refl g14_ (by simp [fs_le]; try omega)) s20_ (by simp [fs_le]; try omega)
    have b22_ : 0 ≤ F18_ 1 8 ∧ F18_ 1 8 ≤ 100000 := gi_g g19_ rfl
    exact ⟨F18_, ⟨rfl, rfl⟩, g19_, g21_, (by obtain ⟨e, c1, c2⟩ := c17_; exact ⟨e, (by (try simp only [Int.reduceToNat] at c1); rw [sp_action]; rw [c9_]; simp only [pb]; rw [c1]; try rfl), c2⟩)⟩
  rintro A1_ ⟨F26_, hA_, g27_, s28_, c24_, c25_⟩
  subst hA_
  have g29_ : fs [(1, 1, 7, 7), (15, 17, 0, 100000), (Ac, Ac + 12, 0, 100000), (119, 119, 2, 3)] F F26_ := fs_tr g14_ s28_ (by simp [fs_le]; try omega)
  have tk30_ : tkh K F26_ := tkh_fs tk15_ s28_ (fun r k h => (fs_n (by omega) rfl)) (fs_n (by omega) rfl)
  refine ga_aload_n (v := .ref 118) hm_119 rfl rfl rfl ?_
  refine ga_aload_n (v := .ref 118) hm_119 rfl rfl rfl ?_
  refine ga_getr (b := 7) hm_119 rfl sc_118 rfl ?_
  refine ga_getr (b := 15) hm_119 rfl sc_7 rfl ?_
  refine fl_iconst hm_119 rfl ?_
  have b31_ : 0 ≤ F26_ 1 7 ∧ F26_ 1 7 ≤ 600 := gi_g g27_ rfl
  refine gVv (nY := 3) (F := 7) (L := 121) (As := [.ref 15, .int (Int32.ofInt 2)]) (b := 118) (rest := []) hm_119 rfl hm_121 rfl rfl (fl_ob sc_118) rfl rfl rfl rfl rfl (by omega) (by omega) (mc_121 hG F26_ X g27_ (K) (15) (5) (2) (al) (alt) hgK tk30_ hko (by omega) nm_15 (by omega) ((rep_fs (rep_fs hal s13_ (fun _ => (fs_n (by omega) rfl)) (fs_n (by omega) rfl)) s28_ (fun _ => (fs_n (by omega) rfl)) (fs_n (by omega) rfl))) ((rep_fs (rep_fs hat s13_ (fun _ => (fs_n (by omega) rfl)) (fs_n (by omega) rfl)) s28_ (fun _ => (fs_n (by omega) rfl)) (fs_n (by omega) rfl))) (by omega)) ?_ ?_
  ·
    rintro j_ A1_ ⟨F33_, ⟨hJ_, hA_⟩, g34_, s35_, c32_⟩
    subst hA_
    subst hJ_
    refine ⟨rfl, ?_⟩
    refine gw_v ?_
    have g36_ : fs [(1, 1, 7, 8), (15, 17, 0, 100000), (Ac, Ac + 12, 0, 100000), (119, 119, 2, 3)] F F33_ := fs_tr (fs_tr fs_refl g29_ (by simp [fs_le]; try omega)) s35_ (by simp [fs_le]; try omega)
    have b37_ : 0 ≤ F33_ 1 8 ∧ F33_ 1 8 ≤ 100000 := gi_g g34_ rfl
    exact ⟨F33_, ⟨rfl, rfl⟩, g34_, g36_, (by obtain ⟨e, c1, c2⟩ := c32_; exact ⟨e, (by (try simp only [Int.reduceToNat] at c1); rw [sp_action]; rw [c9_]; simp only [pb]; rw [c24_]; simp only [pb]; rw [c1]; try rfl), c2⟩)⟩
  rintro A1_ ⟨F43_, hA_, g44_, s45_, c39_, c40_, c41_, c42_⟩
  subst hA_
  have g46_ : fs [(1, 1, 7, 7), (15, 17, 0, 100000), (Ac, Ac + 12, 0, 100000), (119, 119, 2, 3)] F F43_ := fs_tr g29_ s45_ (by simp [fs_le]; try omega)
  have tk47_ : tkh K F43_ := tkh_fs tk30_ s45_ (fun r k h => (fs_n (by omega) (fs_n (by omega) rfl))) (fs_n (by omega) (fs_n (by omega) rfl))
  refine ga_aload_n (v := .ref 118) hm_119 rfl rfl rfl ?_
  refine ga_getr (b := 1) hm_119 rfl sc_118 rfl ?_
  refine ga_ldcs hm_119 rfl ?_
  have b48_ : 0 ≤ F43_ 1 7 ∧ F43_ 1 7 ≤ 600 := gi_g g44_ rfl
  refine gVv (nY := 2) (F := 7) (L := 123) (As := [.retAddr 7]) (b := 1) (rest := []) hm_119 rfl hm_155 rfl rfl (fl_ob sc_1) rfl rfl rfl rfl rfl (by omega) (by omega) (mc_155 hG F43_ X g44_ (K) (7) ([58, 112, 97, 114, 97, 109, 101, 116, 101, 114, 115]) hgK tk47_ hko (by omega) (rfl) (by decide)) ?_ ?_
  ·
    rintro j_ A1_ ⟨F50_, ⟨hJ_, hA_⟩, g51_, s52_, c49_⟩
    subst hA_
    subst hJ_
    refine ⟨rfl, ?_⟩
    refine gw_v ?_
    have g53_ : fs [(1, 1, 7, 8), (15, 17, 0, 100000), (Ac, Ac + 12, 0, 100000), (119, 119, 2, 3)] F F50_ := fs_tr (fs_tr fs_refl g46_ (by simp [fs_le]; try omega)) s52_ (by simp [fs_le]; try omega)
    have b54_ : 0 ≤ F50_ 1 8 ∧ F50_ 1 8 ≤ 100000 := gi_g g51_ rfl
    exact ⟨F50_, ⟨rfl, rfl⟩, g51_, g53_, (by obtain ⟨e, c1, c2⟩ := c49_; exact ⟨e, (by (try simp only [Int.reduceToNat] at c1); rw [sp_action]; rw [c9_]; simp only [pb]; rw [c24_]; simp only [pb]; rw [c39_]; simp only [pb]; rw [c1]; try rfl), c2⟩)⟩
  rintro A1_ ⟨F58_, hA_, g59_, s60_, c56_, c57_⟩
  subst hA_
  have g61_ : fs [(1, 1, 7, 7), (15, 17, 0, 100000), (Ac, Ac + 12, 0, 100000), (119, 119, 2, 3)] F F58_ := fs_tr g46_ s60_ (by simp [fs_le]; try omega)
  have tk62_ : tkh K F58_ := tkh_fs tk47_ s60_ (fun r k h => (fs_n (by omega) rfl)) (fs_n (by omega) rfl)
  refine ga_aload_n (v := .ref 118) hm_119 rfl rfl rfl ?_
  refine ga_getr (b := 1) hm_119 rfl sc_118 rfl ?_
  refine fl_iconst hm_119 rfl ?_
  have b63_ : 0 ≤ F58_ 1 7 ∧ F58_ 1 7 ≤ 600 := gi_g g59_ rfl
  refine gVv (nY := 2) (F := 7) (L := 121) (As := [.int (Int32.ofInt 0)]) (b := 1) (rest := []) hm_119 rfl hm_24 rfl rfl (fl_ob sc_1) rfl rfl rfl rfl rfl (by omega) (by omega) (mc_24 hG F58_ X g59_ (K) (0) hgK tk62_ hko (by omega) (by omega)) ?_ ?_
  ·
    rintro j_ A1_ ⟨F65_, ⟨hJ_, hA_⟩, g66_, s67_, c64_⟩
    subst hA_
    subst hJ_
    refine ⟨rfl, ?_⟩
    refine gw_v ?_
    have g68_ : fs [(1, 1, 7, 8), (15, 17, 0, 100000), (Ac, Ac + 12, 0, 100000), (119, 119, 2, 3)] F F65_ := fs_tr (fs_tr fs_refl g61_ (by simp [fs_le]; try omega)) s67_ (by simp [fs_le]; try omega)
    have b69_ : 0 ≤ F65_ 1 8 ∧ F65_ 1 8 ≤ 100000 := gi_g g66_ rfl
    exact ⟨F65_, ⟨rfl, rfl⟩, g66_, g68_, (by obtain ⟨e, c1, c2⟩ := c64_; exact ⟨e, (by (try simp only [Int.reduceToNat] at c1); rw [sp_action]; rw [c9_]; simp only [pb]; rw [c24_]; simp only [pb]; rw [c39_]; simp only [pb]; rw [c56_]; simp only [pb]; rw [c1]; try rfl), c2⟩)⟩
  rintro A1_ ⟨F73_, hA_, g74_, s75_, c71_, c72_⟩
  subst hA_
  have g76_ : fs [(1, 1, 7, 7), (15, 17, 0, 100000), (Ac, Ac + 12, 0, 100000), (119, 119, 2, 3)] F F73_ := fs_tr g61_ s75_ (by simp [fs_le]; try omega)
  have tk77_ : tkh K F73_ := tkh_fs tk62_ s75_ (fun r k h => (fs_n (by omega) rfl)) (fs_n (by omega) rfl)
  refine ga_aload_n (v := .ref 118) hm_119 rfl rfl rfl ?_
  refine ga_aload_n (v := .ref 118) hm_119 rfl rfl rfl ?_
  refine ga_getr (b := 7) hm_119 rfl sc_118 rfl ?_
  refine ga_getr (b := 18) hm_119 rfl sc_7 rfl ?_
  refine ga_iload_n (z := i) hm_119 rfl rfl ?_
  obtain ⟨a78_, r79_, n80_, q81_⟩ := ra_18 (i).toNat (by omega)
  refine fl_aald (z := i) (q := a78_) hm_119 rfl sc_18 (hG _ _ _ sc_18) rfl (by omega) (by simp only [List.length_cons, List.length_nil]; omega) (by simp only [List.length_cons, List.length_nil]; omega) r79_ ?_
  have x82_ : Ac = a78_ := by omega
  subst x82_
  refine fl_iconst hm_119 rfl ?_
  have b83_ : 0 ≤ F73_ 1 7 ∧ F73_ 1 7 ≤ 600 := gi_g g74_ rfl
  refine gVv (nY := 4) (F := 9) (L := 165) (As := [.ref Ac, .int (Int32.ofInt 3)]) (b := 118) (rest := []) hm_119 rfl hm_123 rfl rfl (fl_ob sc_118) rfl rfl rfl rfl rfl (by omega) (by omega) (mc_123 hG F73_ X g74_ (K) (Ac) (3) (3) (ts) hgK tk77_ hko (by omega) (hN) (by omega) (by omega) ((rep_fs (rep_fs (rep_fs (rep_fs (rep_fs hts s13_ (fun _ => (fs_n (by omega) rfl)) (fs_n (by omega) rfl)) s28_ (fun _ => (fs_n (by omega) rfl)) (fs_n (by omega) rfl)) s45_ (fun _ => (fs_n (by omega) (fs_n (by omega) rfl))) (fs_n (by omega) (fs_n (by omega) rfl))) s60_ (fun _ => (fs_n (by omega) rfl)) (fs_n (by omega) rfl)) s75_ (fun _ => (fs_n (by omega) rfl)) (fs_n (by omega) rfl)))) ?_ ?_
  ·
    rintro j_ A1_ ⟨F85_, ⟨hJ_, hA_⟩, g86_, s87_, c84_⟩
    subst hA_
    subst hJ_
    refine ⟨rfl, ?_⟩
    refine gw_v ?_
    have g88_ : fs [(1, 1, 7, 8), (15, 17, 0, 100000), (Ac, Ac + 12, 0, 100000), (119, 119, 2, 3)] F F85_ := fs_tr (fs_tr fs_refl g76_ (by simp [fs_le]; try omega)) s87_ (by simp [fs_le]; try omega)
    have b89_ : 0 ≤ F85_ 1 8 ∧ F85_ 1 8 ≤ 100000 := gi_g g86_ rfl
    exact ⟨F85_, ⟨rfl, rfl⟩, g86_, g88_, (by obtain ⟨e, c1, c2⟩ := c84_; exact ⟨e, (by (try simp only [Int.reduceToNat] at c1); rw [sp_action]; rw [c9_]; simp only [pb]; rw [c24_]; simp only [pb]; rw [c39_]; simp only [pb]; rw [c56_]; simp only [pb]; rw [c71_]; simp only [pb]; rw [c1]; try rfl), c2⟩)⟩
  rintro A1_ ⟨F93_, hA_, g94_, s95_, c91_, c92_⟩
  subst hA_
  have g96_ : fs [(1, 1, 7, 7), (15, 17, 0, 100000), (Ac, Ac + 12, 0, 100000), (119, 119, 2, 3)] F F93_ := fs_tr g76_ s95_ (by simp [fs_le]; try omega)
  have tk97_ : tkh K F93_ := tkh_fs tk77_ s95_ (fun r k h => (fs_n (by omega) (fs_n (by omega) rfl))) (fs_n (by omega) (fs_n (by omega) rfl))
  obtain ⟨l2_, tl2_, ct1_, ct2_, ct3_⟩ := c91_
  simp only [Int.reduceToNat] at ct1_
  have hl2n := ct2_.1
  refine ga_aload_n (v := .ref 118) hm_119 rfl rfl rfl ?_
  refine ga_getr (b := 1) hm_119 rfl sc_118 rfl ?_
  refine fl_iconst hm_119 rfl ?_
  have b98_ : 0 ≤ F93_ 1 7 ∧ F93_ 1 7 ≤ 600 := gi_g g94_ rfl
  refine gVv (nY := 2) (F := 7) (L := 121) (As := [.int (Int32.ofInt 1)]) (b := 1) (rest := []) hm_119 rfl hm_24 rfl rfl (fl_ob sc_1) rfl rfl rfl rfl rfl (by omega) (by omega) (mc_24 hG F93_ X g94_ (K) (1) hgK tk97_ hko (by omega) (by omega)) ?_ ?_
  ·
    rintro j_ A1_ ⟨F100_, ⟨hJ_, hA_⟩, g101_, s102_, c99_⟩
    subst hA_
    subst hJ_
    refine ⟨rfl, ?_⟩
    refine gw_v ?_
    have g103_ : fs [(1, 1, 7, 8), (15, 17, 0, 100000), (Ac, Ac + 12, 0, 100000), (119, 119, 2, 3)] F F100_ := fs_tr (fs_tr fs_refl g96_ (by simp [fs_le]; try omega)) s102_ (by simp [fs_le]; try omega)
    have b104_ : 0 ≤ F100_ 1 8 ∧ F100_ 1 8 ≤ 100000 := gi_g g101_ rfl
    exact ⟨F100_, ⟨rfl, rfl⟩, g101_, g103_, (by obtain ⟨e, c1, c2⟩ := c99_; exact ⟨e, (by (try simp only [Int.reduceToNat] at c1); rw [sp_action]; rw [c9_]; simp only [pb]; rw [c24_]; simp only [pb]; rw [c39_]; simp only [pb]; rw [c56_]; simp only [pb]; rw [c71_]; simp only [pb]; rw [ct1_]; simp only [pb]; rw [c1]; try rfl), c2⟩)⟩
  rintro A1_ ⟨F108_, hA_, g109_, s110_, c106_, c107_⟩
  subst hA_
  have g111_ : fs [(1, 1, 7, 7), (15, 17, 0, 100000), (Ac, Ac + 12, 0, 100000), (119, 119, 2, 3)] F F108_ := fs_tr g96_ s110_ (by simp [fs_le]; try omega)
  have tk112_ : tkh K F108_ := tkh_fs tk97_ s110_ (fun r k h => (fs_n (by omega) rfl)) (fs_n (by omega) rfl)
  refine ga_aload_n (v := .ref 118) hm_119 rfl rfl rfl ?_
  refine ga_getr (b := 119) hm_119 rfl sc_118 rfl ?_
  refine ga_aload_n (v := .ref 118) hm_119 rfl rfl rfl ?_
  refine ga_getr (b := 7) hm_119 rfl sc_118 rfl ?_
  refine ga_getr (b := 18) hm_119 rfl sc_7 rfl ?_
  refine ga_iload_n (z := i) hm_119 rfl rfl ?_
  obtain ⟨a113_, r114_, n115_, q116_⟩ := ra_18 (i).toNat (by omega)
  refine fl_aald (z := i) (q := a113_) hm_119 rfl sc_18 (hG _ _ _ sc_18) rfl (by omega) (by simp only [List.length_cons, List.length_nil]; omega) (by simp only [List.length_cons, List.length_nil]; omega) r114_ ?_
  have x117_ : Ac = a113_ := by omega
  subst x117_
  refine fl_iconst hm_119 rfl ?_
  refine gIv (nY := 3) (F := 0) (L := 0) (As := [.ref Ac, .int (Int32.ofInt 3)]) (b := 119) (rest := []) hm_119 rfl hm_95 rfl rfl (fl_ob sc_119) rfl rfl rfl rfl rfl (by omega) (by omega) ?_
  intro f118_ l119_ h120_ h121_
  show fl_R xi_ms 95 f118_ l119_ 0 [(0, .ref 119), (1, .ref Ac), (2, .int (Int32.ofInt 3))] [] _ _
  refine ga_aload_n (v := .ref 119) hm_95 rfl rfl rfl ?_
  refine ga_aload_n (v := .ref Ac) hm_95 rfl rfl rfl ?_
  refine ga_putr hm_95 rfl sc_119 rfl rfl ?_
  refine ga_aload_n (v := .ref 119) hm_95 rfl rfl rfl ?_
  refine ga_iload_n (z := 3) hm_95 rfl rfl ?_
  refine ga_puti (z := 3) hm_95 rfl sc_119 rfl rfl ?_
  refine gr_v hm_95 rfl rfl ?_
  clear h120_ h121_ f118_ l119_
  refine ga_aload_n (v := .ref 118) hm_119 rfl rfl rfl ?_
  refine ga_getr (b := 7) hm_119 rfl sc_118 rfl ?_
  refine ga_getr (b := 19) hm_119 rfl sc_7 rfl ?_
  refine ga_iload_n (z := i) hm_119 rfl rfl ?_
  obtain ⟨a122_, r123_, n124_, q125_⟩ := ra_19 (i).toNat (by omega)
  refine fl_aald (z := i) (q := a122_) hm_119 rfl sc_19 (hG _ _ _ sc_19) rfl (by omega) (by simp only [List.length_cons, List.length_nil]; omega) (by simp only [List.length_cons, List.length_nil]; omega) r123_ ?_
  have x126_ : Ac + 3 = a122_ := by omega
  subst x126_
  refine gIv (nY := 1) (F := 0) (L := 0) (As := []) (b := Ac + 3) (rest := []) hm_119 rfl hm_87 rfl rfl (fl_ob hC1.1.1) rfl rfl rfl rfl rfl (by omega) (by omega) ?_
  intro f127_ l128_ h129_ h130_
  show fl_R xi_ms 87 f127_ l128_ 0 [(0, .ref (Ac + 3))] [] _ _
  refine ga_aload_n (v := .ref (Ac + 3)) hm_87 rfl rfl rfl ?_
  refine fl_iconst hm_87 rfl ?_
  refine ga_puti (z := 0) hm_87 rfl hC1.1.1 rfl rfl ?_
  refine ga_aload_n (v := .ref (Ac + 3)) hm_87 rfl rfl rfl ?_
  refine fl_iconst hm_87 rfl ?_
  refine ga_puti (z := 0) hm_87 rfl hC1.1.1 rfl rfl ?_
  refine gr_v hm_87 rfl rfl ?_
  clear h129_ h130_ f127_ l128_
  refine ga_aload_n (v := .ref 118) hm_119 rfl rfl rfl ?_
  refine ga_getr (b := 1) hm_119 rfl sc_118 rfl ?_
  refine ga_ldcs hm_119 rfl ?_
  obtain ⟨F131_, q132_⟩ : ∃ F9_, F9_ = (fl_u (fl_u (fl_u (fl_u F108_ 119 2 ((Ac : Int))) 119 3 3) (Ac + 3) 4 0) (Ac + 3) 5 0) := ⟨_, rfl⟩
  rw [← q132_]
  have g133_ : gi F131_ := by rw [q132_]; exact gi_u (gi_u (gi_u (gi_u (g109_) rfl (by omega) (by omega)) rfl (by omega) (by omega)) hC1.2.1.1 (by omega) (by omega)) hC1.2.1.2.1 (by omega) (by omega)
  have g134_ : fs [(1, 1, 7, 7), (15, 17, 0, 100000), (Ac, Ac + 12, 0, 100000), (119, 119, 2, 3)] F F131_ := by rw [q132_]; exact fs_u (fs_u (fs_u (fs_u (g111_) (fs_z (fs_z (fs_z (fs_y (by omega)))))) (fs_z (fs_z (fs_z (fs_y (by omega)))))) (fs_z (fs_z (fs_y (by omega))))) (fs_z (fs_z (fs_y (by omega))))
  have tk135_ : tkh K F131_ := by rw [q132_]; exact tkh_u (tkh_u (tkh_u (tkh_u (tk112_) (by omega) (by omega)) (by omega) (by omega)) (by omega) (by omega)) (by omega) (by omega)
  have e136_ : F131_ 1 7 = F108_ 1 7 := by rw [q132_]; exact (fl_u_ne (by omega)).trans ((fl_u_ne (by omega)).trans ((fl_u_ne (by omega)).trans (fl_u_ne (by omega))))
  have b137_ : 0 ≤ F108_ 1 7 ∧ F108_ 1 7 ≤ 600 := gi_g g109_ rfl
  refine gVi (nY := 4) (F := 6) (L := 100) (As := [.retAddr 8]) (b := 1) (rest := []) hm_119 rfl hm_152 rfl rfl (fl_ob sc_1) rfl rfl rfl rfl rfl (by omega) (by omega) (mc_152 hG F131_ X g133_ (K) (8) ([58, 112, 114, 101, 99, 111, 110, 100, 105, 116, 105, 111, 110]) hgK tk135_ hko (by omega) (rfl) (by decide)) (fun _ _ h => False.elim h) ?_
  rintro z138_ A1_ (⟨hA_, hz_, c139_⟩ | ⟨hA_, hz_, c140_⟩)
  ·
    subst hA_
    subst hz_
    try simp only [e136_] at c139_
    refine fl_if_eq hm_119 rfl ⟨by omega, by omega⟩ (fun _ => ?_) (fun h => absurd (by omega) h)
    refine ga_aload_n (v := .ref 118) hm_119 rfl rfl rfl ?_
    refine ga_getr (b := 1) hm_119 rfl sc_118 rfl ?_
    refine ga_ldcs hm_119 rfl ?_
    refine gVv (nY := 2) (F := 7) (L := 123) (As := [.retAddr 14]) (b := 1) (rest := []) hm_119 rfl hm_155 rfl rfl (fl_ob sc_1) rfl rfl rfl rfl rfl (by omega) (by omega) (mc_155 hG F131_ X g133_ (K) (14) ([58, 101, 102, 102, 101, 99, 116]) hgK tk135_ hko (by omega) (rfl) (by decide)) ?_ ?_
    ·
      rintro j_ A1_ ⟨F142_, ⟨hJ_, hA_⟩, g143_, s144_, c141_⟩
      subst hA_
      subst hJ_
      try simp only [e136_] at c141_
      refine ⟨rfl, ?_⟩
      refine gw_v ?_
      have g145_ : fs [(1, 1, 7, 8), (15, 17, 0, 100000), (Ac, Ac + 12, 0, 100000), (119, 119, 2, 3)] F F142_ := fs_tr (fs_tr fs_refl g134_ (by simp [fs_le]; try omega)) s144_ (by simp [fs_le]; try omega)
      have b146_ : 0 ≤ F142_ 1 8 ∧ F142_ 1 8 ≤ 100000 := gi_g g143_ rfl
      exact ⟨F142_, ⟨rfl, rfl⟩, g143_, g145_, (by obtain ⟨e, c1, c2⟩ := c141_; exact ⟨e, (by (try simp only [Int.reduceToNat] at c1); rw [sp_action]; rw [c9_]; simp only [pb]; rw [c24_]; simp only [pb]; rw [c39_]; simp only [pb]; rw [c56_]; simp only [pb]; rw [c71_]; simp only [pb]; rw [ct1_]; simp only [pb]; rw [c106_]; simp only [pb]; rw [if_neg (by simp [c139_])]; simp only [pb]; rw [c1]; try rfl), c2⟩)⟩
    rintro A1_ ⟨F150_, hA_, g151_, s152_, c148_, c149_⟩
    subst hA_
    have g153_ : fs [(1, 1, 7, 7), (15, 17, 0, 100000), (Ac, Ac + 12, 0, 100000), (119, 119, 2, 3)] F F150_ := fs_tr g134_ s152_ (by simp [fs_le]; try omega)
    have tk154_ : tkh K F150_ := tkh_fs tk135_ s152_ (fun r k h => (fs_n (by omega) rfl)) (fs_n (by omega) rfl)
    try simp only [e136_] at c148_
    refine ga_aload_n (v := .ref 118) hm_119 rfl rfl rfl ?_
    refine ga_getr (b := 119) hm_119 rfl sc_118 rfl ?_
    refine ga_aload_n (v := .ref 118) hm_119 rfl rfl rfl ?_
    refine ga_getr (b := 7) hm_119 rfl sc_118 rfl ?_
    refine ga_getr (b := 20) hm_119 rfl sc_7 rfl ?_
    refine ga_iload_n (z := i) hm_119 rfl rfl ?_
    obtain ⟨a155_, r156_, n157_, q158_⟩ := ra_20 (i).toNat (by omega)
    refine fl_aald (z := i) (q := a155_) hm_119 rfl sc_20 (hG _ _ _ sc_20) rfl (by omega) (by simp only [List.length_cons, List.length_nil]; omega) (by simp only [List.length_cons, List.length_nil]; omega) r156_ ?_
    have x159_ : Ac + 8 = a155_ := by omega
    subst x159_
    refine fl_iconst hm_119 rfl ?_
    have b160_ : 0 ≤ F150_ 1 7 ∧ F150_ 1 7 ≤ 600 := gi_g g151_ rfl
    have e161_ : F131_ 119 2 = (Ac : Int) := by rw [q132_]; exact (fl_u_ne (by omega)).trans ((fl_u_ne (by omega)).trans ((fl_u_ne (by omega)).trans (fl_u_eq)))
    have e162_ : F150_ 119 2 = (Ac : Int) := (s152_ 119 2 rfl).trans (e161_)
    have e163_ : F131_ 119 3 = 3 := by rw [q132_]; exact (fl_u_ne (by omega)).trans ((fl_u_ne (by omega)).trans (fl_u_eq))
    have e164_ : F150_ 119 3 = 3 := (s152_ 119 3 rfl).trans (e163_)
    refine gVv (nY := 4) (F := 10) (L := 192) (As := [.ref (Ac + 8), .int (Int32.ofInt 1)]) (b := 119) (rest := []) hm_119 rfl hm_90 rfl rfl (fl_ob sc_119) rfl rfl rfl rfl rfl (by omega) (by omega) (mc_90 hG F150_ X g151_ (K) (Ac) (3) (Ac + 8) (4) (2) (0) (3) (l2_) (tl2_) (pl) (ps) (true) (1) hgK tk154_ hko (by omega) (hN) (by omega) (by omega) ((rep_fs (by rw [q132_]; exact (rep_u (rep_u (rep_u (rep_u (rep_fs ct2_ s110_ (fun _ => (fs_n (by omega) rfl)) (fs_n (by omega) rfl)) (by omega) (by omega)) (by omega) (by omega)) (by omega) (by omega)) (by omega) (by omega))) s152_ (fun _ => (fs_n (by omega) rfl)) (fs_n (by omega) rfl))) ((rep_fs (by rw [q132_]; exact (rep_u (rep_u (rep_u (rep_u (rep_fs ct3_ s110_ (fun _ => (fs_n (by omega) rfl)) (fs_n (by omega) rfl)) (by omega) (by omega)) (by omega) (by omega)) (by omega) (by omega)) (by omega) (by omega))) s152_ (fun _ => (fs_n (by omega) rfl)) (fs_n (by omega) rfl))) (by omega) hC2 (by omega) (by omega) ((rep_fs (by rw [q132_]; exact (rep_u (rep_u (rep_u (rep_u (rep_fs (rep_fs (rep_fs (rep_fs (rep_fs (rep_fs (rep_fs hpl s13_ (fun _ => (fs_n (by omega) rfl)) (fs_n (by omega) rfl)) s28_ (fun _ => (fs_n (by omega) rfl)) (fs_n (by omega) rfl)) s45_ (fun _ => (fs_n (by omega) (fs_n (by omega) rfl))) (fs_n (by omega) (fs_n (by omega) rfl))) s60_ (fun _ => (fs_n (by omega) rfl)) (fs_n (by omega) rfl)) s75_ (fun _ => (fs_n (by omega) rfl)) (fs_n (by omega) rfl)) s95_ (fun _ => (fs_n (by omega) (fs_n (by omega) rfl))) (fs_n (by omega) (fs_n (by omega) rfl))) s110_ (fun _ => (fs_n (by omega) rfl)) (fs_n (by omega) rfl)) (by omega) (by omega)) (by omega) (by omega)) (by omega) (by omega)) (by omega) (by omega))) s152_ (fun _ => (fs_n (by omega) rfl)) (fs_n (by omega) rfl))) ((prd_fs (by rw [q132_]; exact (prd_u (prd_u (prd_u (prd_u (prd_fs (prd_fs (prd_fs (prd_fs (prd_fs (prd_fs (prd_fs hps s13_ (fun _ _ _ => (fs_n (by omega) rfl))) s28_ (fun _ _ _ => (fs_n (by omega) rfl))) s45_ (fun _ _ _ => (fs_n (by omega) (fs_n (by omega) rfl)))) s60_ (fun _ _ _ => (fs_n (by omega) rfl))) s75_ (fun _ _ _ => (fs_n (by omega) rfl))) s95_ (fun _ _ _ => (fs_n (by omega) (fs_n (by omega) rfl)))) s110_ (fun _ _ _ => (fs_n (by omega) rfl))) (by omega)) (by omega)) (by omega)) (by omega))) s152_ (fun _ _ _ => (fs_n (by omega) rfl)))) (hpn) (rfl) (by omega) (by decide)) ?_ ?_
    ·
      rintro j_ A1_ ⟨F166_, ⟨hJ_, hA_⟩, g167_, s168_, c165_⟩
      subst hA_
      subst hJ_
      refine ⟨rfl, ?_⟩
      refine gw_v ?_
      have g169_ : fs [(1, 1, 7, 8), (15, 17, 0, 100000), (Ac, Ac + 12, 0, 100000), (119, 119, 2, 3)] F F166_ := fs_tr (fs_tr fs_refl g153_ (by simp [fs_le]; try omega)) s168_ (by simp [fs_le]; try omega)
      have b170_ : 0 ≤ F166_ 1 8 ∧ F166_ 1 8 ≤ 100000 := gi_g g167_ rfl
      exact ⟨F166_, ⟨rfl, rfl⟩, g167_, g169_, (by obtain ⟨e, c1, c2⟩ := c165_; exact ⟨e, (by (try simp only [Int.reduceToNat] at c1); rw [sp_action]; rw [c9_]; simp only [pb]; rw [c24_]; simp only [pb]; rw [c39_]; simp only [pb]; rw [c56_]; simp only [pb]; rw [c71_]; simp only [pb]; rw [ct1_]; simp only [pb]; rw [c106_]; simp only [pb]; rw [if_neg (by simp [c139_])]; simp only [pb]; rw [c148_]; simp only [pb]; rw [c1]; try rfl), c2⟩)⟩
    rintro A1_ ⟨F176_, hA_, g177_, s178_, c172_, c173_, c174_, c175_⟩
    subst hA_
    have g179_ : fs [(1, 1, 7, 7), (15, 17, 0, 100000), (Ac, Ac + 12, 0, 100000), (119, 119, 2, 3)] F F176_ := fs_tr g153_ s178_ (by simp [fs_le]; try omega)
    have tk180_ : tkh K F176_ := tkh_fs tk154_ s178_ (fun r k h => (fs_n (by omega) (fs_n (by omega) (fs_n (by omega) rfl)))) (fs_n (by omega) (fs_n (by omega) (fs_n (by omega) rfl)))
    refine ga_aload_n (v := .ref 118) hm_119 rfl rfl rfl ?_
    refine ga_getr (b := 1) hm_119 rfl sc_118 rfl ?_
    refine fl_iconst hm_119 rfl ?_
    have b181_ : 0 ≤ F176_ 1 7 ∧ F176_ 1 7 ≤ 600 := gi_g g177_ rfl
    refine gVv (nY := 2) (F := 7) (L := 121) (As := [.int (Int32.ofInt 1)]) (b := 1) (rest := []) hm_119 rfl hm_24 rfl rfl (fl_ob sc_1) rfl rfl rfl rfl rfl (by omega) (by omega) (mc_24 hG F176_ X g177_ (K) (1) hgK tk180_ hko (by omega) (by omega)) ?_ ?_
    ·
      rintro j_ A1_ ⟨F183_, ⟨hJ_, hA_⟩, g184_, s185_, c182_⟩
      subst hA_
      subst hJ_
      refine ⟨rfl, ?_⟩
      refine gw_v ?_
      have g186_ : fs [(1, 1, 7, 8), (15, 17, 0, 100000), (Ac, Ac + 12, 0, 100000), (119, 119, 2, 3)] F F183_ := fs_tr (fs_tr fs_refl g179_ (by simp [fs_le]; try omega)) s185_ (by simp [fs_le]; try omega)
      have b187_ : 0 ≤ F183_ 1 8 ∧ F183_ 1 8 ≤ 100000 := gi_g g184_ rfl
      exact ⟨F183_, ⟨rfl, rfl⟩, g184_, g186_, (by obtain ⟨e, c1, c2⟩ := c182_; exact ⟨e, (by (try simp only [Int.reduceToNat] at c1); rw [sp_action]; rw [c9_]; simp only [pb]; rw [c24_]; simp only [pb]; rw [c39_]; simp only [pb]; rw [c56_]; simp only [pb]; rw [c71_]; simp only [pb]; rw [ct1_]; simp only [pb]; rw [c106_]; simp only [pb]; rw [if_neg (by simp [c139_])]; simp only [pb]; rw [c148_]; simp only [pb]; rw [c172_]; simp only [pb]; rw [c1]; try rfl), c2⟩)⟩
    rintro A1_ ⟨F191_, hA_, g192_, s193_, c189_, c190_⟩
    subst hA_
    have g194_ : fs [(1, 1, 7, 7), (15, 17, 0, 100000), (Ac, Ac + 12, 0, 100000), (119, 119, 2, 3)] F F191_ := fs_tr g179_ s193_ (by simp [fs_le]; try omega)
    have tk195_ : tkh K F191_ := tkh_fs tk180_ s193_ (fun r k h => (fs_n (by omega) rfl)) (fs_n (by omega) rfl)
    refine gr_v hm_119 rfl rfl ?_
    have b196_ : 0 ≤ F191_ 1 7 ∧ F191_ 1 7 ≤ 600 := gi_g g192_ rfl
    have e197_ : F58_ 15 2 = F43_ 15 2 := (s60_ 15 2 rfl).trans (rfl)
    have e198_ : F73_ 15 2 = F43_ 15 2 := (s75_ 15 2 rfl).trans (e197_)
    have e199_ : F93_ 15 2 = F43_ 15 2 := (s95_ 15 2 (fs_n (by omega) (fs_n (by omega) rfl))).trans (e198_)
    have e200_ : F108_ 15 2 = F43_ 15 2 := (s110_ 15 2 rfl).trans (e199_)
    have e201_ : F131_ 15 2 = F43_ 15 2 := by rw [q132_]; exact (fl_u_ne (by omega)).trans ((fl_u_ne (by omega)).trans ((fl_u_ne (by omega)).trans ((fl_u_ne (by omega)).trans (e200_))))
    have e202_ : F150_ 15 2 = F43_ 15 2 := (s152_ 15 2 rfl).trans (e201_)
    have e203_ : F176_ 15 2 = F43_ 15 2 := (s178_ 15 2 (fs_n (by omega) (fs_n (by omega) (fs_n (by omega) rfl)))).trans (e202_)
    have e204_ : F191_ 15 2 = F43_ 15 2 := (s193_ 15 2 rfl).trans (e203_)
    have b205_ : 0 ≤ F43_ 15 2 ∧ F43_ 15 2 ≤ 5 := gi_g g44_ rfl
    have e206_ : F131_ (Ac + 3) 4 = 0 := by rw [q132_]; exact (fl_u_ne (by omega)).trans (fl_u_eq)
    have e207_ : F150_ (Ac + 3) 4 = 0 := (s152_ (Ac + 3) 4 (fs_n (by omega) rfl)).trans (e206_)
    have e208_ : F176_ (Ac + 3) 4 = 0 := (s178_ (Ac + 3) 4 (fs_n (by omega) (fs_n (by omega) (fs_n (by omega) rfl)))).trans (e207_)
    have e209_ : F191_ (Ac + 3) 4 = 0 := (s193_ (Ac + 3) 4 (fs_n (by omega) rfl)).trans (e208_)
    have e210_ : F191_ (Ac + 8) 5 = F176_ (Ac + 8) 5 := (s193_ (Ac + 8) 5 (fs_n (by omega) rfl)).trans (rfl)
    exact ⟨F191_, rfl, g192_, g194_, (⟨_, _, ⟨by rw [sp_action]; rw [c9_]; simp only [pb]; rw [c24_]; simp only [pb]; rw [c39_]; simp only [pb]; rw [c56_]; simp only [pb]; rw [c71_]; simp only [pb]; rw [ct1_]; simp only [pb]; rw [c106_]; simp only [pb]; rw [if_neg (by simp [c139_])]; simp only [pb]; rw [c148_]; simp only [pb]; rw [c172_]; simp only [pb]; rw [c189_]; try simp only [pb], by (try simp only [List.length_append, List.length_singleton]); omega⟩, (rep_fs (rep_fs (rep_fs (by rw [q132_]; exact (rep_u (rep_u (rep_u (rep_u (rep_fs (rep_fs (rep_fs (rep_fs c41_ s60_ (fun _ => (fs_n (by omega) rfl)) (fs_n (by omega) rfl)) s75_ (fun _ => (fs_n (by omega) rfl)) (fs_n (by omega) rfl)) s95_ (fun _ => (fs_n (by omega) (fs_n (by omega) rfl))) (fs_n (by omega) (fs_n (by omega) rfl))) s110_ (fun _ => (fs_n (by omega) rfl)) (fs_n (by omega) rfl)) (by omega) (by omega)) (by omega) (by omega)) (by omega) (by omega)) (by omega) (by omega))) s152_ (fun _ => (fs_n (by omega) rfl)) (fs_n (by omega) rfl)) s178_ (fun _ => (fs_n (by omega) (fs_n (by omega) (fs_n (by omega) rfl)))) (fs_n (by omega) (fs_n (by omega) (fs_n (by omega) rfl)))) s193_ (fun _ => (fs_n (by omega) rfl)) (fs_n (by omega) rfl)), (rep_fs (rep_fs (rep_fs (by rw [q132_]; exact (rep_u (rep_u (rep_u (rep_u (rep_fs (rep_fs (rep_fs (rep_fs c42_ s60_ (fun _ => (fs_n (by omega) rfl)) (fs_n (by omega) rfl)) s75_ (fun _ => (fs_n (by omega) rfl)) (fs_n (by omega) rfl)) s95_ (fun _ => (fs_n (by omega) (fs_n (by omega) rfl))) (fs_n (by omega) (fs_n (by omega) rfl))) s110_ (fun _ => (fs_n (by omega) rfl)) (fs_n (by omega) rfl)) (by omega) (by omega)) (by omega) (by omega)) (by omega) (by omega)) (by omega) (by omega))) s152_ (fun _ => (fs_n (by omega) rfl)) (fs_n (by omega) rfl)) s178_ (fun _ => (fs_n (by omega) (fs_n (by omega) (fs_n (by omega) rfl)))) (fs_n (by omega) (fs_n (by omega) (fs_n (by omega) rfl)))) s193_ (fun _ => (fs_n (by omega) rfl)) (fs_n (by omega) rfl))⟩), (by omega), (by rw [show (i + 1).toNat = i.toNat + 1 by omega]; exact di_add (di_fs (di_fs (di_fs (by rw [q132_]; exact (di_u (di_u (di_u (di_u (di_fs (di_fs (di_fs (di_fs (di_fs (di_fs (di_fs hdi s13_ (fun _ _ _ => (fs_n (by omega) rfl))) s28_ (fun _ _ _ => (fs_n (by omega) rfl))) s45_ (fun _ _ _ => (fs_n (by omega) (fs_n (by omega) rfl)))) s60_ (fun _ _ _ => (fs_n (by omega) rfl))) s75_ (fun _ _ _ => (fs_n (by omega) rfl))) s95_ (fun _ _ _ => (fs_n (by omega) (fs_n (by omega) rfl)))) s110_ (fun _ _ _ => (fs_n (by omega) rfl))) (by omega)) (by omega)) (by omega)) (by omega))) s152_ (fun _ _ _ => (fs_n (by omega) rfl))) s178_ (fun _ _ _ => (fs_n (by omega) (fs_n (by omega) (fs_n (by omega) rfl))))) s193_ (fun _ _ _ => (fs_n (by omega) rfl))) (m := (l2_.length : Int)) (by omega) (cw_nil (e209_)) (cw_fs c174_ s193_ (fun r j hj => (fs_n (by omega) rfl))) (rep_fs (rep_fs (rep_fs (by rw [q132_]; exact (rep_u (rep_u (rep_u (rep_u (rep_fs ct2_ s110_ (fun _ => (fs_n (by omega) rfl)) (fs_n (by omega) rfl)) (by omega) (by omega)) (by omega) (by omega)) (by omega) (by omega)) (by omega) (by omega))) s152_ (fun _ => (fs_n (by omega) rfl)) (fs_n (by omega) rfl)) s178_ (fun _ => (fs_n (by omega) (fs_n (by omega) (fs_n (by omega) rfl)))) (fs_n (by omega) (fs_n (by omega) (fs_n (by omega) rfl)))) s193_ (fun _ => (fs_n (by omega) rfl)) (fs_n (by omega) rfl)).1), (by rw [act_h c9_ c24_ c39_ c56_ c71_ ct1_ c106_, act_n c139_ c148_ c172_]; exact ⟨(rep_fs (rep_fs (rep_fs (by rw [q132_]; exact (rep_u (rep_u (rep_u (rep_u (rep_fs ct3_ s110_ (fun _ => (fs_n (by omega) rfl)) (fs_n (by omega) rfl)) (by omega) (by omega)) (by omega) (by omega)) (by omega) (by omega)) (by omega) (by omega))) s152_ (fun _ => (fs_n (by omega) rfl)) (fs_n (by omega) rfl)) s178_ (fun _ => (fs_n (by omega) (fs_n (by omega) (fs_n (by omega) rfl)))) (fs_n (by omega) (fs_n (by omega) (fs_n (by omega) rfl)))) s193_ (fun _ => (fs_n (by omega) rfl)) (fs_n (by omega) rfl)), (clr_nil (e209_)), (clr_fs c175_ s193_ (fun r j hj => (fs_n (by omega) rfl))), (e210_).trans (rfl).symm⟩)⟩
  subst hA_
  subst hz_
  try simp only [e136_] at c140_
  refine fl_if_eq hm_119 rfl ⟨by omega, by omega⟩ (fun h => absurd h (by omega)) (fun _ => ?_)
  refine ga_aload_n (v := .ref 118) hm_119 rfl rfl rfl ?_
  refine ga_getr (b := 1) hm_119 rfl sc_118 rfl ?_
  refine gVv (nY := 1) (F := 0) (L := 0) (As := []) (b := 1) (rest := []) hm_119 rfl hm_154 rfl rfl (fl_ob sc_1) rfl rfl rfl rfl rfl (by omega) (by omega) (mc_154 hG F131_ X g133_ (K) hgK tk135_ hko (by omega)) (fun _ _ h => False.elim h) ?_
  rintro A1_ ⟨F214_, hA_, g215_, s216_, c212_, c213_⟩
  subst hA_
  have g217_ : fs [(1, 1, 7, 7), (15, 17, 0, 100000), (Ac, Ac + 12, 0, 100000), (119, 119, 2, 3)] F F214_ := fs_tr g134_ s216_ (by simp [fs_le]; try omega)
  have tk218_ : tkh K F214_ := tkh_fs tk135_ s216_ (fun r k h => (fs_n (by omega) rfl)) (fs_n (by omega) rfl)
  try simp only [e136_] at c212_
  refine ga_aload_n (v := .ref 118) hm_119 rfl rfl rfl ?_
  refine ga_getr (b := 119) hm_119 rfl sc_118 rfl ?_
  refine ga_aload_n (v := .ref 118) hm_119 rfl rfl rfl ?_
  refine ga_getr (b := 7) hm_119 rfl sc_118 rfl ?_
  refine ga_getr (b := 19) hm_119 rfl sc_7 rfl ?_
  refine ga_iload_n (z := i) hm_119 rfl rfl ?_
  obtain ⟨a219_, r220_, n221_, q222_⟩ := ra_19 (i).toNat (by omega)
  refine fl_aald (z := i) (q := a219_) hm_119 rfl sc_19 (hG _ _ _ sc_19) rfl (by omega) (by simp only [List.length_cons, List.length_nil]; omega) (by simp only [List.length_cons, List.length_nil]; omega) r220_ ?_
  have x223_ : Ac + 3 = a219_ := by omega
  subst x223_
  refine fl_iconst hm_119 rfl ?_
  have b224_ : 0 ≤ F214_ 1 7 ∧ F214_ 1 7 ≤ 600 := gi_g g215_ rfl
  have e225_ : F131_ 119 2 = (Ac : Int) := by rw [q132_]; exact (fl_u_ne (by omega)).trans ((fl_u_ne (by omega)).trans ((fl_u_ne (by omega)).trans (fl_u_eq)))
  have e226_ : F214_ 119 2 = (Ac : Int) := (s216_ 119 2 rfl).trans (e225_)
  have e227_ : F131_ 119 3 = 3 := by rw [q132_]; exact (fl_u_ne (by omega)).trans ((fl_u_ne (by omega)).trans (fl_u_eq))
  have e228_ : F214_ 119 3 = 3 := (s216_ 119 3 rfl).trans (e227_)
  refine gVv (nY := 4) (F := 10) (L := 192) (As := [.ref (Ac + 3), .int (Int32.ofInt 0)]) (b := 119) (rest := []) hm_119 rfl hm_90 rfl rfl (fl_ob sc_119) rfl rfl rfl rfl rfl (by omega) (by omega) (mc_90 hG F214_ X g215_ (K) (Ac) (3) (Ac + 3) (4) (2) (-1) (3) (l2_) (tl2_) (pl) (ps) (false) (0) hgK tk218_ hko (by omega) (hN) (by omega) (by omega) ((rep_fs (by rw [q132_]; exact (rep_u (rep_u (rep_u (rep_u (rep_fs ct2_ s110_ (fun _ => (fs_n (by omega) rfl)) (fs_n (by omega) rfl)) (by omega) (by omega)) (by omega) (by omega)) (by omega) (by omega)) (by omega) (by omega))) s216_ (fun _ => (fs_n (by omega) rfl)) (fs_n (by omega) rfl))) ((rep_fs (by rw [q132_]; exact (rep_u (rep_u (rep_u (rep_u (rep_fs ct3_ s110_ (fun _ => (fs_n (by omega) rfl)) (fs_n (by omega) rfl)) (by omega) (by omega)) (by omega) (by omega)) (by omega) (by omega)) (by omega) (by omega))) s216_ (fun _ => (fs_n (by omega) rfl)) (fs_n (by omega) rfl))) (by omega) hC1 (by omega) (by omega) ((rep_fs (by rw [q132_]; exact (rep_u (rep_u (rep_u (rep_u (rep_fs (rep_fs (rep_fs (rep_fs (rep_fs (rep_fs (rep_fs hpl s13_ (fun _ => (fs_n (by omega) rfl)) (fs_n (by omega) rfl)) s28_ (fun _ => (fs_n (by omega) rfl)) (fs_n (by omega) rfl)) s45_ (fun _ => (fs_n (by omega) (fs_n (by omega) rfl))) (fs_n (by omega) (fs_n (by omega) rfl))) s60_ (fun _ => (fs_n (by omega) rfl)) (fs_n (by omega) rfl)) s75_ (fun _ => (fs_n (by omega) rfl)) (fs_n (by omega) rfl)) s95_ (fun _ => (fs_n (by omega) (fs_n (by omega) rfl))) (fs_n (by omega) (fs_n (by omega) rfl))) s110_ (fun _ => (fs_n (by omega) rfl)) (fs_n (by omega) rfl)) (by omega) (by omega)) (by omega) (by omega)) (by omega) (by omega)) (by omega) (by omega))) s216_ (fun _ => (fs_n (by omega) rfl)) (fs_n (by omega) rfl))) ((prd_fs (by rw [q132_]; exact (prd_u (prd_u (prd_u (prd_u (prd_fs (prd_fs (prd_fs (prd_fs (prd_fs (prd_fs (prd_fs hps s13_ (fun _ _ _ => (fs_n (by omega) rfl))) s28_ (fun _ _ _ => (fs_n (by omega) rfl))) s45_ (fun _ _ _ => (fs_n (by omega) (fs_n (by omega) rfl)))) s60_ (fun _ _ _ => (fs_n (by omega) rfl))) s75_ (fun _ _ _ => (fs_n (by omega) rfl))) s95_ (fun _ _ _ => (fs_n (by omega) (fs_n (by omega) rfl)))) s110_ (fun _ _ _ => (fs_n (by omega) rfl))) (by omega)) (by omega)) (by omega)) (by omega))) s216_ (fun _ _ _ => (fs_n (by omega) rfl)))) (hpn) (rfl) (by omega) (by decide)) ?_ ?_
  ·
    rintro j_ A1_ ⟨F230_, ⟨hJ_, hA_⟩, g231_, s232_, c229_⟩
    subst hA_
    subst hJ_
    refine ⟨rfl, ?_⟩
    refine gw_v ?_
    have g233_ : fs [(1, 1, 7, 8), (15, 17, 0, 100000), (Ac, Ac + 12, 0, 100000), (119, 119, 2, 3)] F F230_ := fs_tr (fs_tr fs_refl g217_ (by simp [fs_le]; try omega)) s232_ (by simp [fs_le]; try omega)
    have b234_ : 0 ≤ F230_ 1 8 ∧ F230_ 1 8 ≤ 100000 := gi_g g231_ rfl
    exact ⟨F230_, ⟨rfl, rfl⟩, g231_, g233_, (by obtain ⟨e, c1, c2⟩ := c229_; exact ⟨e, (by (try simp only [Int.reduceToNat] at c1); rw [sp_action]; rw [c9_]; simp only [pb]; rw [c24_]; simp only [pb]; rw [c39_]; simp only [pb]; rw [c56_]; simp only [pb]; rw [c71_]; simp only [pb]; rw [ct1_]; simp only [pb]; rw [c106_]; simp only [pb]; rw [if_pos c140_, c212_]; rw [c1]; try rfl), c2⟩)⟩
  rintro A1_ ⟨F240_, hA_, g241_, s242_, c236_, c237_, c238_, c239_⟩
  subst hA_
  have g243_ : fs [(1, 1, 7, 7), (15, 17, 0, 100000), (Ac, Ac + 12, 0, 100000), (119, 119, 2, 3)] F F240_ := fs_tr g217_ s242_ (by simp [fs_le]; try omega)
  have tk244_ : tkh K F240_ := tkh_fs tk218_ s242_ (fun r k h => (fs_n (by omega) (fs_n (by omega) (fs_n (by omega) rfl)))) (fs_n (by omega) (fs_n (by omega) (fs_n (by omega) rfl)))
  refine ga_aload_n (v := .ref 118) hm_119 rfl rfl rfl ?_
  refine ga_getr (b := 1) hm_119 rfl sc_118 rfl ?_
  refine ga_ldcs hm_119 rfl ?_
  have b245_ : 0 ≤ F240_ 1 7 ∧ F240_ 1 7 ≤ 600 := gi_g g241_ rfl
  refine gVv (nY := 2) (F := 7) (L := 123) (As := [.retAddr 14]) (b := 1) (rest := []) hm_119 rfl hm_155 rfl rfl (fl_ob sc_1) rfl rfl rfl rfl rfl (by omega) (by omega) (mc_155 hG F240_ X g241_ (K) (14) ([58, 101, 102, 102, 101, 99, 116]) hgK tk244_ hko (by omega) (rfl) (by decide)) ?_ ?_
  ·
    rintro j_ A1_ ⟨F247_, ⟨hJ_, hA_⟩, g248_, s249_, c246_⟩
    subst hA_
    subst hJ_
    refine ⟨rfl, ?_⟩
    refine gw_v ?_
    have g250_ : fs [(1, 1, 7, 8), (15, 17, 0, 100000), (Ac, Ac + 12, 0, 100000), (119, 119, 2, 3)] F F247_ := fs_tr (fs_tr fs_refl g243_ (by simp [fs_le]; try omega)) s249_ (by simp [fs_le]; try omega)
    have b251_ : 0 ≤ F247_ 1 8 ∧ F247_ 1 8 ≤ 100000 := gi_g g248_ rfl
    exact ⟨F247_, ⟨rfl, rfl⟩, g248_, g250_, (by obtain ⟨e, c1, c2⟩ := c246_; exact ⟨e, (by (try simp only [Int.reduceToNat] at c1); rw [sp_action]; rw [c9_]; simp only [pb]; rw [c24_]; simp only [pb]; rw [c39_]; simp only [pb]; rw [c56_]; simp only [pb]; rw [c71_]; simp only [pb]; rw [ct1_]; simp only [pb]; rw [c106_]; simp only [pb]; rw [if_pos c140_, c212_]; rw [c236_]; simp only [pb]; rw [c1]; try rfl), c2⟩)⟩
  rintro A1_ ⟨F255_, hA_, g256_, s257_, c253_, c254_⟩
  subst hA_
  have g258_ : fs [(1, 1, 7, 7), (15, 17, 0, 100000), (Ac, Ac + 12, 0, 100000), (119, 119, 2, 3)] F F255_ := fs_tr g243_ s257_ (by simp [fs_le]; try omega)
  have tk259_ : tkh K F255_ := tkh_fs tk244_ s257_ (fun r k h => (fs_n (by omega) rfl)) (fs_n (by omega) rfl)
  refine ga_aload_n (v := .ref 118) hm_119 rfl rfl rfl ?_
  refine ga_getr (b := 119) hm_119 rfl sc_118 rfl ?_
  refine ga_aload_n (v := .ref 118) hm_119 rfl rfl rfl ?_
  refine ga_getr (b := 7) hm_119 rfl sc_118 rfl ?_
  refine ga_getr (b := 20) hm_119 rfl sc_7 rfl ?_
  refine ga_iload_n (z := i) hm_119 rfl rfl ?_
  obtain ⟨a260_, r261_, n262_, q263_⟩ := ra_20 (i).toNat (by omega)
  refine fl_aald (z := i) (q := a260_) hm_119 rfl sc_20 (hG _ _ _ sc_20) rfl (by omega) (by simp only [List.length_cons, List.length_nil]; omega) (by simp only [List.length_cons, List.length_nil]; omega) r261_ ?_
  have x264_ : Ac + 8 = a260_ := by omega
  subst x264_
  refine fl_iconst hm_119 rfl ?_
  have b265_ : 0 ≤ F255_ 1 7 ∧ F255_ 1 7 ≤ 600 := gi_g g256_ rfl
  have e266_ : F240_ 119 2 = (Ac : Int) := (s242_ 119 2 (fs_n (by omega) (fs_n (by omega) (fs_n (by omega) rfl)))).trans (e226_)
  have e267_ : F255_ 119 2 = (Ac : Int) := (s257_ 119 2 rfl).trans (e266_)
  have e268_ : F240_ 119 3 = 3 := (s242_ 119 3 (fs_n (by omega) (fs_n (by omega) (fs_n (by omega) rfl)))).trans (e228_)
  have e269_ : F255_ 119 3 = 3 := (s257_ 119 3 rfl).trans (e268_)
  refine gVv (nY := 4) (F := 10) (L := 192) (As := [.ref (Ac + 8), .int (Int32.ofInt 1)]) (b := 119) (rest := []) hm_119 rfl hm_90 rfl rfl (fl_ob sc_119) rfl rfl rfl rfl rfl (by omega) (by omega) (mc_90 hG F255_ X g256_ (K) (Ac) (3) (Ac + 8) (4) (2) (0) (3) (l2_) (tl2_) (pl) (ps) (true) (1) hgK tk259_ hko (by omega) (hN) (by omega) (by omega) ((rep_fs (rep_fs (rep_fs (by rw [q132_]; exact (rep_u (rep_u (rep_u (rep_u (rep_fs ct2_ s110_ (fun _ => (fs_n (by omega) rfl)) (fs_n (by omega) rfl)) (by omega) (by omega)) (by omega) (by omega)) (by omega) (by omega)) (by omega) (by omega))) s216_ (fun _ => (fs_n (by omega) rfl)) (fs_n (by omega) rfl)) s242_ (fun _ => (fs_n (by omega) (fs_n (by omega) (fs_n (by omega) rfl)))) (fs_n (by omega) (fs_n (by omega) (fs_n (by omega) rfl)))) s257_ (fun _ => (fs_n (by omega) rfl)) (fs_n (by omega) rfl))) ((rep_fs (rep_fs (rep_fs (by rw [q132_]; exact (rep_u (rep_u (rep_u (rep_u (rep_fs ct3_ s110_ (fun _ => (fs_n (by omega) rfl)) (fs_n (by omega) rfl)) (by omega) (by omega)) (by omega) (by omega)) (by omega) (by omega)) (by omega) (by omega))) s216_ (fun _ => (fs_n (by omega) rfl)) (fs_n (by omega) rfl)) s242_ (fun _ => (fs_n (by omega) (fs_n (by omega) (fs_n (by omega) rfl)))) (fs_n (by omega) (fs_n (by omega) (fs_n (by omega) rfl)))) s257_ (fun _ => (fs_n (by omega) rfl)) (fs_n (by omega) rfl))) (by omega) hC2 (by omega) (by omega) ((rep_fs (rep_fs (rep_fs (by rw [q132_]; exact (rep_u (rep_u (rep_u (rep_u (rep_fs (rep_fs (rep_fs (rep_fs (rep_fs (rep_fs (rep_fs hpl s13_ (fun _ => (fs_n (by omega) rfl)) (fs_n (by omega) rfl)) s28_ (fun _ => (fs_n (by omega) rfl)) (fs_n (by omega) rfl)) s45_ (fun _ => (fs_n (by omega) (fs_n (by omega) rfl))) (fs_n (by omega) (fs_n (by omega) rfl))) s60_ (fun _ => (fs_n (by omega) rfl)) (fs_n (by omega) rfl)) s75_ (fun _ => (fs_n (by omega) rfl)) (fs_n (by omega) rfl)) s95_ (fun _ => (fs_n (by omega) (fs_n (by omega) rfl))) (fs_n (by omega) (fs_n (by omega) rfl))) s110_ (fun _ => (fs_n (by omega) rfl)) (fs_n (by omega) rfl)) (by omega) (by omega)) (by omega) (by omega)) (by omega) (by omega)) (by omega) (by omega))) s216_ (fun _ => (fs_n (by omega) rfl)) (fs_n (by omega) rfl)) s242_ (fun _ => (fs_n (by omega) (fs_n (by omega) (fs_n (by omega) rfl)))) (fs_n (by omega) (fs_n (by omega) (fs_n (by omega) rfl)))) s257_ (fun _ => (fs_n (by omega) rfl)) (fs_n (by omega) rfl))) ((prd_fs (prd_fs (prd_fs (by rw [q132_]; exact (prd_u (prd_u (prd_u (prd_u (prd_fs (prd_fs (prd_fs (prd_fs (prd_fs (prd_fs (prd_fs hps s13_ (fun _ _ _ => (fs_n (by omega) rfl))) s28_ (fun _ _ _ => (fs_n (by omega) rfl))) s45_ (fun _ _ _ => (fs_n (by omega) (fs_n (by omega) rfl)))) s60_ (fun _ _ _ => (fs_n (by omega) rfl))) s75_ (fun _ _ _ => (fs_n (by omega) rfl))) s95_ (fun _ _ _ => (fs_n (by omega) (fs_n (by omega) rfl)))) s110_ (fun _ _ _ => (fs_n (by omega) rfl))) (by omega)) (by omega)) (by omega)) (by omega))) s216_ (fun _ _ _ => (fs_n (by omega) rfl))) s242_ (fun _ _ _ => (fs_n (by omega) (fs_n (by omega) (fs_n (by omega) rfl))))) s257_ (fun _ _ _ => (fs_n (by omega) rfl)))) (hpn) (rfl) (by omega) (by decide)) ?_ ?_
  ·
    rintro j_ A1_ ⟨F271_, ⟨hJ_, hA_⟩, g272_, s273_, c270_⟩
    subst hA_
    subst hJ_
    refine ⟨rfl, ?_⟩
    refine gw_v ?_
    have g274_ : fs [(1, 1, 7, 8), (15, 17, 0, 100000), (Ac, Ac + 12, 0, 100000), (119, 119, 2, 3)] F F271_ := fs_tr (fs_tr fs_refl g258_ (by simp [fs_le]; try omega)) s273_ (by simp [fs_le]; try omega)
    have b275_ : 0 ≤ F271_ 1 8 ∧ F271_ 1 8 ≤ 100000 := gi_g g272_ rfl
    exact ⟨F271_, ⟨rfl, rfl⟩, g272_, g274_, (by obtain ⟨e, c1, c2⟩ := c270_; exact ⟨e, (by (try simp only [Int.reduceToNat] at c1); rw [sp_action]; rw [c9_]; simp only [pb]; rw [c24_]; simp only [pb]; rw [c39_]; simp only [pb]; rw [c56_]; simp only [pb]; rw [c71_]; simp only [pb]; rw [ct1_]; simp only [pb]; rw [c106_]; simp only [pb]; rw [if_pos c140_, c212_]; rw [c236_]; simp only [pb]; rw [c253_]; simp only [pb]; rw [c1]; try rfl), c2⟩)⟩
  rintro A1_ ⟨F281_, hA_, g282_, s283_, c277_, c278_, c279_, c280_⟩
  subst hA_
  have g284_ : fs [(1, 1, 7, 7), (15, 17, 0, 100000), (Ac, Ac + 12, 0, 100000), (119, 119, 2, 3)] F F281_ := fs_tr g258_ s283_ (by simp [fs_le]; try omega)
  have tk285_ : tkh K F281_ := tkh_fs tk259_ s283_ (fun r k h => (fs_n (by omega) (fs_n (by omega) (fs_n (by omega) rfl)))) (fs_n (by omega) (fs_n (by omega) (fs_n (by omega) rfl)))
  refine ga_aload_n (v := .ref 118) hm_119 rfl rfl rfl ?_
  refine ga_getr (b := 1) hm_119 rfl sc_118 rfl ?_
  refine fl_iconst hm_119 rfl ?_
  have b286_ : 0 ≤ F281_ 1 7 ∧ F281_ 1 7 ≤ 600 := gi_g g282_ rfl
  refine gVv (nY := 2) (F := 7) (L := 121) (As := [.int (Int32.ofInt 1)]) (b := 1) (rest := []) hm_119 rfl hm_24 rfl rfl (fl_ob sc_1) rfl rfl rfl rfl rfl (by omega) (by omega) (mc_24 hG F281_ X g282_ (K) (1) hgK tk285_ hko (by omega) (by omega)) ?_ ?_
  ·
    rintro j_ A1_ ⟨F288_, ⟨hJ_, hA_⟩, g289_, s290_, c287_⟩
    subst hA_
    subst hJ_
    refine ⟨rfl, ?_⟩
    refine gw_v ?_
    have g291_ : fs [(1, 1, 7, 8), (15, 17, 0, 100000), (Ac, Ac + 12, 0, 100000), (119, 119, 2, 3)] F F288_ := fs_tr (fs_tr fs_refl g284_ (by simp [fs_le]; try omega)) s290_ (by simp [fs_le]; try omega)
    have b292_ : 0 ≤ F288_ 1 8 ∧ F288_ 1 8 ≤ 100000 := gi_g g289_ rfl
    exact ⟨F288_, ⟨rfl, rfl⟩, g289_, g291_, (by obtain ⟨e, c1, c2⟩ := c287_; exact ⟨e, (by (try simp only [Int.reduceToNat] at c1); rw [sp_action]; rw [c9_]; simp only [pb]; rw [c24_]; simp only [pb]; rw [c39_]; simp only [pb]; rw [c56_]; simp only [pb]; rw [c71_]; simp only [pb]; rw [ct1_]; simp only [pb]; rw [c106_]; simp only [pb]; rw [if_pos c140_, c212_]; rw [c236_]; simp only [pb]; rw [c253_]; simp only [pb]; rw [c277_]; simp only [pb]; rw [c1]; try rfl), c2⟩)⟩
  rintro A1_ ⟨F296_, hA_, g297_, s298_, c294_, c295_⟩
  subst hA_
  have g299_ : fs [(1, 1, 7, 7), (15, 17, 0, 100000), (Ac, Ac + 12, 0, 100000), (119, 119, 2, 3)] F F296_ := fs_tr g284_ s298_ (by simp [fs_le]; try omega)
  have tk300_ : tkh K F296_ := tkh_fs tk285_ s298_ (fun r k h => (fs_n (by omega) rfl)) (fs_n (by omega) rfl)
  refine gr_v hm_119 rfl rfl ?_
  have b301_ : 0 ≤ F296_ 1 7 ∧ F296_ 1 7 ≤ 600 := gi_g g297_ rfl
  have e302_ : F58_ 15 2 = F43_ 15 2 := (s60_ 15 2 rfl).trans (rfl)
  have e303_ : F73_ 15 2 = F43_ 15 2 := (s75_ 15 2 rfl).trans (e302_)
  have e304_ : F93_ 15 2 = F43_ 15 2 := (s95_ 15 2 (fs_n (by omega) (fs_n (by omega) rfl))).trans (e303_)
  have e305_ : F108_ 15 2 = F43_ 15 2 := (s110_ 15 2 rfl).trans (e304_)
  have e306_ : F131_ 15 2 = F43_ 15 2 := by rw [q132_]; exact (fl_u_ne (by omega)).trans ((fl_u_ne (by omega)).trans ((fl_u_ne (by omega)).trans ((fl_u_ne (by omega)).trans (e305_))))
  have e307_ : F214_ 15 2 = F43_ 15 2 := (s216_ 15 2 rfl).trans (e306_)
  have e308_ : F240_ 15 2 = F43_ 15 2 := (s242_ 15 2 (fs_n (by omega) (fs_n (by omega) (fs_n (by omega) rfl)))).trans (e307_)
  have e309_ : F255_ 15 2 = F43_ 15 2 := (s257_ 15 2 rfl).trans (e308_)
  have e310_ : F281_ 15 2 = F43_ 15 2 := (s283_ 15 2 (fs_n (by omega) (fs_n (by omega) (fs_n (by omega) rfl)))).trans (e309_)
  have e311_ : F296_ 15 2 = F43_ 15 2 := (s298_ 15 2 rfl).trans (e310_)
  have b312_ : 0 ≤ F43_ 15 2 ∧ F43_ 15 2 ≤ 5 := gi_g g44_ rfl
  have e313_ : F296_ (Ac + 8) 5 = F281_ (Ac + 8) 5 := (s298_ (Ac + 8) 5 (fs_n (by omega) rfl)).trans (rfl)
  exact ⟨F296_, rfl, g297_, g299_, (⟨_, _, ⟨by rw [sp_action]; rw [c9_]; simp only [pb]; rw [c24_]; simp only [pb]; rw [c39_]; simp only [pb]; rw [c56_]; simp only [pb]; rw [c71_]; simp only [pb]; rw [ct1_]; simp only [pb]; rw [c106_]; simp only [pb]; rw [if_pos c140_, c212_]; rw [c236_]; simp only [pb]; rw [c253_]; simp only [pb]; rw [c277_]; simp only [pb]; rw [c294_]; try simp only [pb], by (try simp only [List.length_append, List.length_singleton]); omega⟩, (rep_fs (rep_fs (rep_fs (rep_fs (rep_fs (by rw [q132_]; exact (rep_u (rep_u (rep_u (rep_u (rep_fs (rep_fs (rep_fs (rep_fs c41_ s60_ (fun _ => (fs_n (by omega) rfl)) (fs_n (by omega) rfl)) s75_ (fun _ => (fs_n (by omega) rfl)) (fs_n (by omega) rfl)) s95_ (fun _ => (fs_n (by omega) (fs_n (by omega) rfl))) (fs_n (by omega) (fs_n (by omega) rfl))) s110_ (fun _ => (fs_n (by omega) rfl)) (fs_n (by omega) rfl)) (by omega) (by omega)) (by omega) (by omega)) (by omega) (by omega)) (by omega) (by omega))) s216_ (fun _ => (fs_n (by omega) rfl)) (fs_n (by omega) rfl)) s242_ (fun _ => (fs_n (by omega) (fs_n (by omega) (fs_n (by omega) rfl)))) (fs_n (by omega) (fs_n (by omega) (fs_n (by omega) rfl)))) s257_ (fun _ => (fs_n (by omega) rfl)) (fs_n (by omega) rfl)) s283_ (fun _ => (fs_n (by omega) (fs_n (by omega) (fs_n (by omega) rfl)))) (fs_n (by omega) (fs_n (by omega) (fs_n (by omega) rfl)))) s298_ (fun _ => (fs_n (by omega) rfl)) (fs_n (by omega) rfl)), (rep_fs (rep_fs (rep_fs (rep_fs (rep_fs (by rw [q132_]; exact (rep_u (rep_u (rep_u (rep_u (rep_fs (rep_fs (rep_fs (rep_fs c42_ s60_ (fun _ => (fs_n (by omega) rfl)) (fs_n (by omega) rfl)) s75_ (fun _ => (fs_n (by omega) rfl)) (fs_n (by omega) rfl)) s95_ (fun _ => (fs_n (by omega) (fs_n (by omega) rfl))) (fs_n (by omega) (fs_n (by omega) rfl))) s110_ (fun _ => (fs_n (by omega) rfl)) (fs_n (by omega) rfl)) (by omega) (by omega)) (by omega) (by omega)) (by omega) (by omega)) (by omega) (by omega))) s216_ (fun _ => (fs_n (by omega) rfl)) (fs_n (by omega) rfl)) s242_ (fun _ => (fs_n (by omega) (fs_n (by omega) (fs_n (by omega) rfl)))) (fs_n (by omega) (fs_n (by omega) (fs_n (by omega) rfl)))) s257_ (fun _ => (fs_n (by omega) rfl)) (fs_n (by omega) rfl)) s283_ (fun _ => (fs_n (by omega) (fs_n (by omega) (fs_n (by omega) rfl)))) (fs_n (by omega) (fs_n (by omega) (fs_n (by omega) rfl)))) s298_ (fun _ => (fs_n (by omega) rfl)) (fs_n (by omega) rfl))⟩), (by omega), (by rw [show (i + 1).toNat = i.toNat + 1 by omega]; exact di_add (di_fs (di_fs (di_fs (di_fs (di_fs (by rw [q132_]; exact (di_u (di_u (di_u (di_u (di_fs (di_fs (di_fs (di_fs (di_fs (di_fs (di_fs hdi s13_ (fun _ _ _ => (fs_n (by omega) rfl))) s28_ (fun _ _ _ => (fs_n (by omega) rfl))) s45_ (fun _ _ _ => (fs_n (by omega) (fs_n (by omega) rfl)))) s60_ (fun _ _ _ => (fs_n (by omega) rfl))) s75_ (fun _ _ _ => (fs_n (by omega) rfl))) s95_ (fun _ _ _ => (fs_n (by omega) (fs_n (by omega) rfl)))) s110_ (fun _ _ _ => (fs_n (by omega) rfl))) (by omega)) (by omega)) (by omega)) (by omega))) s216_ (fun _ _ _ => (fs_n (by omega) rfl))) s242_ (fun _ _ _ => (fs_n (by omega) (fs_n (by omega) (fs_n (by omega) rfl))))) s257_ (fun _ _ _ => (fs_n (by omega) rfl))) s283_ (fun _ _ _ => (fs_n (by omega) (fs_n (by omega) (fs_n (by omega) rfl))))) s298_ (fun _ _ _ => (fs_n (by omega) rfl))) (m := (l2_.length : Int)) (by omega) (cw_fs (cw_fs (cw_fs c238_ s257_ (fun r j hj => (fs_n (by omega) rfl))) s283_ (fun r j hj => (fs_n (by omega) (fs_n (by omega) (fs_n (by omega) rfl))))) s298_ (fun r j hj => (fs_n (by omega) rfl))) (cw_fs c279_ s298_ (fun r j hj => (fs_n (by omega) rfl))) (rep_fs (rep_fs (rep_fs (rep_fs (rep_fs (by rw [q132_]; exact (rep_u (rep_u (rep_u (rep_u (rep_fs ct2_ s110_ (fun _ => (fs_n (by omega) rfl)) (fs_n (by omega) rfl)) (by omega) (by omega)) (by omega) (by omega)) (by omega) (by omega)) (by omega) (by omega))) s216_ (fun _ => (fs_n (by omega) rfl)) (fs_n (by omega) rfl)) s242_ (fun _ => (fs_n (by omega) (fs_n (by omega) (fs_n (by omega) rfl)))) (fs_n (by omega) (fs_n (by omega) (fs_n (by omega) rfl)))) s257_ (fun _ => (fs_n (by omega) rfl)) (fs_n (by omega) rfl)) s283_ (fun _ => (fs_n (by omega) (fs_n (by omega) (fs_n (by omega) rfl)))) (fs_n (by omega) (fs_n (by omega) (fs_n (by omega) rfl)))) s298_ (fun _ => (fs_n (by omega) rfl)) (fs_n (by omega) rfl)).1), (by rw [act_h c9_ c24_ c39_ c56_ c71_ ct1_ c106_, act_y c140_ c212_ c236_ c253_ c277_]; exact ⟨(rep_fs (rep_fs (rep_fs (rep_fs (rep_fs (by rw [q132_]; exact (rep_u (rep_u (rep_u (rep_u (rep_fs ct3_ s110_ (fun _ => (fs_n (by omega) rfl)) (fs_n (by omega) rfl)) (by omega) (by omega)) (by omega) (by omega)) (by omega) (by omega)) (by omega) (by omega))) s216_ (fun _ => (fs_n (by omega) rfl)) (fs_n (by omega) rfl)) s242_ (fun _ => (fs_n (by omega) (fs_n (by omega) (fs_n (by omega) rfl)))) (fs_n (by omega) (fs_n (by omega) (fs_n (by omega) rfl)))) s257_ (fun _ => (fs_n (by omega) rfl)) (fs_n (by omega) rfl)) s283_ (fun _ => (fs_n (by omega) (fs_n (by omega) (fs_n (by omega) rfl)))) (fs_n (by omega) (fs_n (by omega) (fs_n (by omega) rfl)))) s298_ (fun _ => (fs_n (by omega) rfl)) (fs_n (by omega) rfl)), (clr_fs (clr_fs (clr_fs c239_ s257_ (fun r j hj => (fs_n (by omega) rfl))) s283_ (fun r j hj => (fs_n (by omega) (fs_n (by omega) (fs_n (by omega) rfl))))) s298_ (fun r j hj => (fs_n (by omega) rfl))), (clr_fs c280_ s298_ (fun r j hj => (fs_n (by omega) rfl))), (e313_).trans (rfl).symm⟩)⟩

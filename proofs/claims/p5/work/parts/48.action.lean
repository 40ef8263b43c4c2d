/-- the actions' terms stand for their parameters -/
def di (F : fl_N) (n : Nat) : Prop := ∀ j : Nat, j < n → cw F (39 + 13 * j + 3) (F (39 + 13 * j) 2) ∧ cw F (39 + 13 * j + 8) (F (39 + 13 * j) 2)
theorem di_fs {F F' : fl_N} {S : List (Nat × Nat × Nat × Nat)} {n : Nat} (h : di F n) (hf : fs S F F') (hS : ∀ r k, 39 ≤ r ∧ r < 39 + 13 * n → fs_in S r k = false) : di F' n := by
  intro j hj
  have h9 := h j hj
  rw [hf (39 + 13 * j) 2 (hS _ _ (by omega))]
  exact ⟨cw_fs h9.1 hf (fun r k hr => hS r k (by omega)), cw_fs h9.2 hf (fun r k hr => hS r k (by omega))⟩
theorem di_u {F : fl_N} {n a k : Nat} {z : Int} (h : di F n) (ha : a < 39 ∨ 39 + 13 * n ≤ a) : di (fl_u F a k z) n := by
  intro j hj
  have h9 := h j hj
  rw [fl_u_ne (by omega)]
  exact ⟨cw_u h9.1 (by omega), cw_u h9.2 (by omega)⟩
theorem di_add {F : fl_N} {n A : Nat} {m : Int} (h : di F n) (hA : A = 39 + 13 * n) (h1 : cw F (A + 3) m) (h2 : cw F (A + 8) m) (hm : F A 2 = m) : di F (n + 1) := by
  intro j hj
  by_cases e : j < n
  · exact h j e
  · have e2 : j = n := by omega
    subst e2
    subst hA
    rw [hm]
    exact ⟨h1, h2⟩

/- CheapPlanner$Reader.readAction -/
abbrev pq_119 (G : Nat → Nat → Option Nat) (F : fl_N) (X : xi_H) (K : fl_N) (Ac : Nat) (i : Int) (ts pl al alt : List Int) (ps : List (List Int)) : Outcome → xi_H → Prop := gqv (fun A => ∃ F' : fl_N, fl_H sh_T G F' ++ X = A ∧ gi F' ∧ fs [(1, 1, 7, 7), (15, 17, 0, 100000), (Ac, Ac + 12, 0, 100000), (119, 119, 2, 3)] F F' ∧ (∃ al2 alt2, (sp_action K ts pl ps al (F 1 7) = .inr (F' 1 7, al2) ∧ (al2.length : Int) = i + 1) ∧ rep (F' 16) (F' 15 2) al2 ∧ rep (F' 17) (F' 15 2) alt2) ∧ (0 ≤ F' 1 7 ∧ F' 1 7 ≤ K 1 6 - 1) ∧ (di F' (i + 1).toNat)) (fun j A => ∃ F' : fl_N, (387 + X.length = j ∧ fl_H sh_T G F' ++ (X ++ [gx 14]) = A) ∧ gi F' ∧ fs [(1, 1, 7, 8), (15, 17, 0, 100000), (Ac, Ac + 12, 0, 100000), (119, 119, 2, 3)] F F' ∧ (∃ e, sp_action K ts pl ps al (F 1 7) = .inl e ∧ F' 1 8 = e.1 + 10 * e.2))
theorem mc_119 {G : Nat → Nat → Option Nat} (hG : gg G) (F : fl_N) (X : xi_H) (hgi : gi F) (K : fl_N) (Ac : Nat) (i : Int) (ts pl al alt : List Int) (ps : List (List Int)) (hgK : gi K) (hK : tkh K F) (hko : tko K) (hp : 0 ≤ F 1 7 ∧ F 1 7 ≤ K 1 6 - 1) (hA : Ac = 39 + 13 * i.toNat) (hi : 0 ≤ i ∧ i < 5) (hN : nm Ac 3) (hC1 : cl (Ac + 3) 4 2 (-1)) (hC2 : cl (Ac + 8) 4 2 0) (hts : rep (F 9) (F 8 2) ts) (hpl : rep (F 12) (F 11 2) pl) (hps : prd F ps) (hpn : pl.length = ps.length) (hal : rep (F 16) (F 15 2) al) (hat : rep (F 17) (F 15 2) alt) (hai : (al.length : Int) = i) (hdi : di F i.toNat) : fl_M xi_ms 119 11 215 [.ref 118, .int (Int32.ofInt i)] (fl_H sh_T G F ++ X) (pq_119 G F X K Ac i ts pl al alt ps) := by
  intro fr lo hfr hlo
  show fl_R xi_ms 119 fr lo 0 [(0, .ref 118), (1, .int (Int32.ofInt i))] [] _ _
  have hpl1 := hpl.1
  have hb11 : 0 ≤ F 11 2 ∧ F 11 2 ≤ 6 := gi_g hgi rfl
  have hr_Ac := hN.2.2
  refine ga_aload_n (v := .ref 118) hm_119 rfl rfl rfl ?_
  refine ga_getr (b := 1) hm_119 rfl sc_118 rfl ?_
  refine fl_iconst hm_119 rfl ?_
  have b1_ : 0 ≤ F 1 7 ∧ F 1 7 ≤ 600 := gi_g hgi rfl
  refine gVv (nY := 2) (F := 7) (L := 121) (As := [.int (Int32.ofInt 0)]) (b := 1) (rest := []) hm_119 rfl hm_24 rfl rfl (fl_ob sc_1) rfl rfl rfl rfl rfl (by omega) (by omega) (mc_24 hG F X hgi (K) (0) hgK hK hko (by omega) (by omega)) ?_ ?_
  ·
    rintro j_ A1_ ⟨F3_, ⟨hJ_, hA_⟩, g4_, s5_, c2_⟩
    subst hA_
    subst hJ_
    refine ⟨rfl, ?_⟩
    refine gw_v ?_
    have g6_ : fs [(1, 1, 7, 8), (15, 17, 0, 100000), (Ac, Ac + 12, 0, 100000), (119, 119, 2, 3)] F F3_ := fs_tr fs_refl s5_ (by simp [fs_le]; try omega)
    have b7_ : 0 ≤ F3_ 1 8 ∧ F3_ 1 8 ≤ 100000 := gi_g g4_ rfl
    exact ⟨F3_, ⟨rfl, rfl⟩, g4_, g6_, (by obtain ⟨e, c1, c2⟩ := c2_; exact ⟨e, (by (try simp only [Int.reduceToNat] at c1); rw [sp_action]; rw [c1]; try rfl), c2⟩)⟩
  rintro A1_ ⟨F11_, hA_, g12_, s13_, c9_, c10_⟩
  subst hA_
  have g14_ : fs [(1, 1, 7, 7), (15, 17, 0, 100000), (Ac, Ac + 12, 0, 100000), (119, 119, 2, 3)] F F11_ := fs_tr fs_refl s13_ (by simp [fs_le]; try omega)
  have tk15_ : tkh K F11_ := tkh_fs hK s13_ (fun r k h => (fs_n (by omega) rfl)) (fs_n (by omega) rfl)
  refine ga_aload_n (v := .ref 118) hm_119 rfl rfl rfl ?_
  refine ga_getr (b := 1) hm_119 rfl sc_118 rfl ?_
  refine ga_ldcs hm_119 rfl ?_
  have b16_ : 0 ≤ F11_ 1 7 ∧ F11_ 1 7 ≤ 600 := gi_g g12_ rfl
  refine gVv (nY := 2) (F := 7) (L := 123) (As := [.retAddr 6]) (b := 1) (rest := []) hm_119 rfl hm_155 rfl rfl (fl_ob sc_1) rfl rfl rfl rfl rfl (by omega) (by omega) (mc_155 hG F11_ X g12_ (K) (6) ([58, 97, 99, 116, 105, 111, 110]) hgK tk15_ hko (by omega) (rfl) (by decide)) ?_ ?_
  ·
    rintro j_ A1_ ⟨F18_, ⟨hJ_, hA_⟩, g19_, s20_, c17_⟩
    subst hA_
    subst hJ_
    refine ⟨rfl, ?_⟩
    refine gw_v ?_
    have g21_ : fs [(1, 1, 7, 8), (15, 17, 0, 100000), (Ac, Ac + 12, 0, 100000), (119, 119, 2, 3)] F F18_ := fs_tr (fs_tr fs_refl g14_ (by simp [fs_le]; try omega)) s20_ (by simp [fs_le]; try omega)
    have b22_ : 0 ≤ F18_ 1 8 ∧ F18_ 1 8 ≤ 100000 := gi_g g19_ rfl
    exact ⟨F18_, ⟨rfl, rfl⟩, g19_, g21_, (by obtain ⟨e, c1, c2⟩ := c17_; exact ⟨e, (by (try simp only [Int.reduceToNat] at c1); rw [sp_action]; rw [c9_]; simp only [pb]; rw [c1]; try rfl), c2⟩)⟩
  rintro A1_ ⟨F26_, hA_, g27_, s28_, c24_, c25_⟩
  subst hA_
  have g29_ : fs [(1, 1, 7, 7), (15, 17, 0, 100000), (Ac, Ac + 12, 0, 100000), (119, 119, 2, 3)] F F26_ := fs_tr g14_ s28_ (by simp [fs_le]; try omega)
  have tk30_ : tkh K F26_ := tkh_fs tk15_ s28_ (fun r k h => (fs_n (by omega) rfl)) (fs_n (by omega) rfl)
  refine ga_aload_n (v := .ref 118) hm_119 rfl rfl rfl ?_
  refine ga_aload_n (v := .ref 118) hm_119 rfl rfl rfl ?_
  refine ga_getr (b := 7) hm_119 rfl sc_118 rfl ?_
  refine ga_getr (b := 15) hm_119 rfl sc_7 rfl ?_
  refine fl_iconst hm_119 rfl ?_
  have b31_ : 0 ≤ F26_ 1 7 ∧ F26_ 1 7 ≤ 600 := gi_g g27_ rfl
  refine gVv (nY := 3) (F := 7) (L := 121) (As := [.ref 15, .int (Int32.ofInt 2)]) (b := 118) (rest := []) hm_119 rfl hm_121 rfl rfl (fl_ob sc_118) rfl rfl rfl rfl rfl (by omega) (by omega) (mc_121 hG F26_ X g27_ (K) (15) (5) (2) (al) (alt) hgK tk30_ hko (by omega) nm_15 (by omega) ((rep_fs (rep_fs hal s13_ (fun _ => (fs_n (by omega) rfl)) (fs_n (by omega) rfl)) s28_ (fun _ => (fs_n (by omega) rfl)) (fs_n (by omega) rfl))) ((rep_fs (rep_fs hat s13_ (fun _ => (fs_n (by omega) rfl)) (fs_n (by omega) rfl)) s28_ (fun _ => (fs_n (by omega) rfl)) (fs_n (by omega) rfl))) (by omega)) ?_ ?_
  ·
    rintro j_ A1_ ⟨F33_, ⟨hJ_, hA_⟩, g34_, s35_, c32_⟩
    subst hA_
    subst hJ_
    refine ⟨rfl, ?_⟩
    refine gw_v ?_
    have g36_ : fs [(1, 1, 7, 8), (15, 17, 0, 100000), (Ac, Ac + 12, 0, 100000), (119, 119, 2, 3)] F F33_ := fs_tr (fs_tr fs_refl g29_ (by simp [fs_le]; try omega)) s35_ (by simp [fs_le]; try omega)
    have b37_ : 0 ≤ F33_ 1 8 ∧ F33_ 1 8 ≤ 100000 := gi_g g34_ rfl
    exact ⟨F33_, ⟨rfl, rfl⟩, g34_, g36_, (by obtain ⟨e, c1, c2⟩ := c32_; exact ⟨e, (by (try simp only [Int.reduceToNat] at c1); rw [sp_action]; rw [c9_]; simp only [pb]; rw [c24_]; simp only [pb]; rw [c1]; try rfl), c2⟩)⟩
  rintro A1_ ⟨F43_, hA_, g44_, s45_, c39_, c40_, c41_, c42_⟩
  subst hA_
  have g46_ : fs [(1, 1, 7, 7), (15, 17, 0, 100000), (Ac, Ac + 12, 0, 100000), (119, 119, 2, 3)] F F43_ := fs_tr g29_ s45_ (by simp [fs_le]; try omega)
  have tk47_ : tkh K F43_ := tkh_fs tk30_ s45_ (fun r k h => (fs_n (by omega) (fs_n (by omega) rfl))) (fs_n (by omega) (fs_n (by omega) rfl))
  refine ga_aload_n (v := .ref 118) hm_119 rfl rfl rfl ?_
  refine ga_getr (b := 1) hm_119 rfl sc_118 rfl ?_
  refine ga_ldcs hm_119 rfl ?_
  have b48_ : 0 ≤ F43_ 1 7 ∧ F43_ 1 7 ≤ 600 := gi_g g44_ rfl
  refine gVv (nY := 2) (F := 7) (L := 123) (As := [.retAddr 7]) (b := 1) (rest := []) hm_119 rfl hm_155 rfl rfl (fl_ob sc_1) rfl rfl rfl rfl rfl (by omega) (by omega) (mc_155 hG F43_ X g44_ (K) (7) ([58, 112, 97, 114, 97, 109, 101, 116, 101, 114, 115]) hgK tk47_ hko (by omega) (rfl) (by decide)) ?_ ?_
  ·
    rintro j_ A1_ ⟨F50_, ⟨hJ_, hA_⟩, g51_, s52_, c49_⟩
    subst hA_
    subst hJ_
    refine ⟨rfl, ?_⟩
    refine gw_v ?_
    have g53_ : fs [(1, 1, 7, 8), (15, 17, 0, 100000), (Ac, Ac + 12, 0, 100000), (119, 119, 2, 3)] F F50_ := fs_tr (fs_tr fs_refl g46_ (by simp [fs_le]; try omega)) s52_ (by simp [fs_le]; try omega)
    have b54_ : 0 ≤ F50_ 1 8 ∧ F50_ 1 8 ≤ 100000 := gi_g g51_ rfl
    exact ⟨F50_, ⟨rfl, rfl⟩, g51_, g53_, (by obtain ⟨e, c1, c2⟩ := c49_; exact ⟨e, (by (try simp only [Int.reduceToNat] at c1); rw [sp_action]; rw [c9_]; simp only [pb]; rw [c24_]; simp only [pb]; rw [c39_]; simp only [pb]; rw [c1]; try rfl), c2⟩)⟩
  rintro A1_ ⟨F58_, hA_, g59_, s60_, c56_, c57_⟩
  subst hA_
  have g61_ : fs [(1, 1, 7, 7), (15, 17, 0, 100000), (Ac, Ac + 12, 0, 100000), (119, 119, 2, 3)] F F58_ := fs_tr g46_ s60_ (by simp [fs_le]; try omega)
  have tk62_ : tkh K F58_ := tkh_fs tk47_ s60_ (fun r k h => (fs_n (by omega) rfl)) (fs_n (by omega) rfl)
  refine ga_aload_n (v := .ref 118) hm_119 rfl rfl rfl ?_
  refine ga_getr (b := 1) hm_119 rfl sc_118 rfl ?_
  refine fl_iconst hm_119 rfl ?_
  have b63_ : 0 ≤ F58_ 1 7 ∧ F58_ 1 7 ≤ 600 := gi_g g59_ rfl
  refine gVv (nY := 2) (F := 7) (L := 121) (As := [.int (Int32.ofInt 0)]) (b := 1) (rest := []) hm_119 rfl hm_24 rfl rfl (fl_ob sc_1) rfl rfl rfl rfl rfl (by omega) (by omega) (mc_24 hG F58_ X g59_ (K) (0) hgK tk62_ hko (by omega) (by omega)) ?_ ?_
  ·
    rintro j_ A1_ ⟨F65_, ⟨hJ_, hA_⟩, g66_, s67_, c64_⟩
    subst hA_
    subst hJ_
    refine ⟨rfl, ?_⟩
    refine gw_v ?_
    have g68_ : fs [(1, 1, 7, 8), (15, 17, 0, 100000), (Ac, Ac + 12, 0, 100000), (119, 119, 2, 3)] F F65_ := fs_tr (fs_tr fs_refl g61_ (by simp [fs_le]; try omega)) s67_ (by simp [fs_le]; try omega)
    have b69_ : 0 ≤ F65_ 1 8 ∧ F65_ 1 8 ≤ 100000 := gi_g g66_ rfl
    exact ⟨F65_, ⟨rfl, rfl⟩, g66_, g68_, (by obtain ⟨e, c1, c2⟩ := c64_; exact ⟨e, (by (try simp only [Int.reduceToNat] at c1); rw [sp_action]; rw [c9_]; simp only [pb]; rw [c24_]; simp only [pb]; rw [c39_]; simp only [pb]; rw [c56_]; simp only [pb]; rw [c1]; try rfl), c2⟩)⟩
  rintro A1_ ⟨F73_, hA_, g74_, s75_, c71_, c72_⟩
  subst hA_
  have g76_ : fs [(1, 1, 7, 7), (15, 17, 0, 100000), (Ac, Ac + 12, 0, 100000), (119, 119, 2, 3)] F F73_ := fs_tr g61_ s75_ (by simp [fs_le]; try omega)
  have tk77_ : tkh K F73_ := tkh_fs tk62_ s75_ (fun r k h => (fs_n (by omega) rfl)) (fs_n (by omega) rfl)
  refine ga_aload_n (v := .ref 118) hm_119 rfl rfl rfl ?_
  refine ga_aload_n (v := .ref 118) hm_119 rfl rfl rfl ?_
  refine ga_getr (b := 7) hm_119 rfl sc_118 rfl ?_
  refine ga_getr (b := 18) hm_119 rfl sc_7 rfl ?_
  refine ga_iload_n (z := i) hm_119 rfl rfl ?_
  obtain ⟨a78_, r79_, n80_, q81_⟩ := ra_18 (i).toNat (by omega)
  refine fl_aald (z := i) (q := a78_) hm_119 rfl sc_18 (hG _ _ _ sc_18) rfl (by omega) (by simp only [List.length_cons, List.length_nil]; omega) (by simp only [List.length_cons, List.length_nil]; omega) r79_ ?_
  have x82_ : Ac = a78_ := by omega
  subst x82_
  refine fl_iconst hm_119 rfl ?_
  have b83_ : 0 ≤ F73_ 1 7 ∧ F73_ 1 7 ≤ 600 := gi_g g74_ rfl
  refine gVv (nY := 4) (F := 9) (L := 165) (As := [.ref Ac, .int (Int32.ofInt 3)]) (b := 118) (rest := []) hm_119 rfl hm_123 rfl rfl (fl_ob sc_118) rfl rfl rfl rfl rfl (by omega) (by omega) (mc_123 hG F73_ X g74_ (K) (Ac) (3) (3) (ts) hgK tk77_ hko (by omega) (hN) (by omega) (by omega) ((rep_fs (rep_fs (rep_fs (rep_fs (rep_fs hts s13_ (fun _ => (fs_n (by omega) rfl)) (fs_n (by omega) rfl)) s28_ (fun _ => (fs_n (by omega) rfl)) (fs_n (by omega) rfl)) s45_ (fun _ => (fs_n (by omega) (fs_n (by omega) rfl))) (fs_n (by omega) (fs_n (by omega) rfl))) s60_ (fun _ => (fs_n (by omega) rfl)) (fs_n (by omega) rfl)) s75_ (fun _ => (fs_n (by omega) rfl)) (fs_n (by omega) rfl)))) ?_ ?_
  ·
    rintro j_ A1_ ⟨F85_, ⟨hJ_, hA_⟩, g86_, s87_, c84_⟩
    subst hA_
    subst hJ_
    refine ⟨rfl, ?_⟩
    refine gw_v ?_
    have g88_ : fs [(1, 1, 7, 8), (15, 17, 0, 100000), (Ac, Ac + 12, 0, 100000), (119, 119, 2, 3)] F F85_ := fs_tr (fs_tr fs_refl g76_ (by simp [fs_le]; try omega)) s87_ (by simp [fs_le]; try omega)
    have b89_ : 0 ≤ F85_ 1 8 ∧ F85_ 1 8 ≤ 100000 := gi_g g86_ rfl
    exact ⟨F85_, ⟨rfl, rfl⟩, g86_, g88_, (by obtain ⟨e, c1, c2⟩ := c84_; exact ⟨e, (by (try simp only [Int.reduceToNat] at c1); rw [sp_action]; rw [c9_]; simp only [pb]; rw [c24_]; simp only [pb]; rw [c39_]; simp only [pb]; rw [c56_]; simp only [pb]; rw [c71_]; simp only [pb]; rw [c1]; try rfl), c2⟩)⟩
  rintro A1_ ⟨F93_, hA_, g94_, s95_, c91_, c92_⟩
  subst hA_
  have g96_ : fs [(1, 1, 7, 7), (15, 17, 0, 100000), (Ac, Ac + 12, 0, 100000), (119, 119, 2, 3)] F F93_ := fs_tr g76_ s95_ (by simp [fs_le]; try omega)
  have tk97_ : tkh K F93_ := tkh_fs tk77_ s95_ (fun r k h => (fs_n (by omega) (fs_n (by omega) rfl))) (fs_n (by omega) (fs_n (by omega) rfl))
  obtain ⟨l2_, tl2_, ct1_, ct2_, ct3_⟩ := c91_
  simp only [Int.reduceToNat] at ct1_
  have hl2n := ct2_.1
  refine ga_aload_n (v := .ref 118) hm_119 rfl rfl rfl ?_
  refine ga_getr (b := 1) hm_119 rfl sc_118 rfl ?_
  refine fl_iconst hm_119 rfl ?_
  have b98_ : 0 ≤ F93_ 1 7 ∧ F93_ 1 7 ≤ 600 := gi_g g94_ rfl
  refine gVv (nY := 2) (F := 7) (L := 121) (As := [.int (Int32.ofInt 1)]) (b := 1) (rest := []) hm_119 rfl hm_24 rfl rfl (fl_ob sc_1) rfl rfl rfl rfl rfl (by omega) (by omega) (mc_24 hG F93_ X g94_ (K) (1) hgK tk97_ hko (by omega) (by omega)) ?_ ?_
  ·
    rintro j_ A1_ ⟨F100_, ⟨hJ_, hA_⟩, g101_, s102_, c99_⟩
    subst hA_
    subst hJ_
    refine ⟨rfl, ?_⟩
    refine gw_v ?_
    have g103_ : fs [(1, 1, 7, 8), (15, 17, 0, 100000), (Ac, Ac + 12, 0, 100000), (119, 119, 2, 3)] F F100_ := fs_tr (fs_tr fs_refl g96_ (by simp [fs_le]; try omega)) s102_ (by simp [fs_le]; try omega)
    have b104_ : 0 ≤ F100_ 1 8 ∧ F100_ 1 8 ≤ 100000 := gi_g g101_ rfl
    exact ⟨F100_, ⟨rfl, rfl⟩, g101_, g103_, (by obtain ⟨e, c1, c2⟩ := c99_; exact ⟨e, (by (try simp only [Int.reduceToNat] at c1); rw [sp_action]; rw [c9_]; simp only [pb]; rw [c24_]; simp only [pb]; rw [c39_]; simp only [pb]; rw [c56_]; simp only [pb]; rw [c71_]; simp only [pb]; rw [ct1_]; simp only [pb]; rw [c1]; try rfl), c2⟩)⟩
  rintro A1_ ⟨F108_, hA_, g109_, s110_, c106_, c107_⟩
  subst hA_
  have g111_ : fs [(1, 1, 7, 7), (15, 17, 0, 100000), (Ac, Ac + 12, 0, 100000), (119, 119, 2, 3)] F F108_ := fs_tr g96_ s110_ (by simp [fs_le]; try omega)
  have tk112_ : tkh K F108_ := tkh_fs tk97_ s110_ (fun r k h => (fs_n (by omega) rfl)) (fs_n (by omega) rfl)
  refine ga_aload_n (v := .ref 118) hm_119 rfl rfl rfl ?_
  refine ga_getr (b := 119) hm_119 rfl sc_118 rfl ?_
  refine ga_aload_n (v := .ref 118) hm_119 rfl rfl rfl ?_
  refine ga_getr (b := 7) hm_119 rfl sc_118 rfl ?_
  refine ga_getr (b := 18) hm_119 rfl sc_7 rfl ?_
  refine ga_iload_n (z := i) hm_119 rfl rfl ?_
  obtain ⟨a113_, r114_, n115_, q116_⟩ := ra_18 (i).toNat (by omega)
  refine fl_aald (z := i) (q := a113_) hm_119 rfl sc_18 (hG _ _ _ sc_18) rfl (by omega) (by simp only [List.length_cons, List.length_nil]; omega) (by simp only [List.length_cons, List.length_nil]; omega) r114_ ?_
  have x117_ : Ac = a113_ := by omega
  subst x117_
  refine fl_iconst hm_119 rfl ?_
  refine gIv (nY := 3) (F := 0) (L := 0) (As := [.ref Ac, .int (Int32.ofInt 3)]) (b := 119) (rest := []) hm_119 rfl hm_95 rfl rfl (fl_ob sc_119) rfl rfl rfl rfl rfl (by omega) (by omega) ?_
  intro f118_ l119_ h120_ h121_
  show fl_R xi_ms 95 f118_ l119_ 0 [(0, .ref 119), (1, .ref Ac), (2, .int (Int32.ofInt 3))] [] _ _
  refine ga_aload_n (v := .ref 119) hm_95 rfl rfl rfl ?_
  refine ga_aload_n (v := .ref Ac) hm_95 rfl rfl rfl ?_
  refine ga_putr hm_95 rfl sc_119 rfl rfl ?_
  refine ga_aload_n (v := .ref 119) hm_95 rfl rfl rfl ?_
  refine ga_iload_n (z := 3) hm_95 rfl rfl ?_
  refine ga_puti (z := 3) hm_95 rfl sc_119 rfl rfl ?_
  refine gr_v hm_95 rfl rfl ?_
  clear h120_ h121_ f118_ l119_
  refine ga_aload_n (v := .ref 118) hm_119 rfl rfl rfl ?_
  refine ga_getr (b := 7) hm_119 rfl sc_118 rfl ?_
  refine ga_getr (b := 19) hm_119 rfl sc_7 rfl ?_
  refine ga_iload_n (z := i) hm_119 rfl rfl ?_
  obtain ⟨a122_, r123_, n124_, q125_⟩ := ra_19 (i).toNat (by omega)
  refine fl_aald (z := i) (q := a122_) hm_119 rfl sc_19 (hG _ _ _ sc_19) rfl (by omega) (by simp only [List.length_cons, List.length_nil]; omega) (by simp only [List.length_cons, List.length_nil]; omega) r123_ ?_
  have x126_ : Ac + 3 = a122_ := by omega
  subst x126_
  refine gIv (nY := 1) (F := 0) (L := 0) (As := []) (b := Ac + 3) (rest := []) hm_119 rfl hm_87 rfl rfl (fl_ob hC1.1.1) rfl rfl rfl rfl rfl (by omega) (by omega) ?_
  intro f127_ l128_ h129_ h130_
  show fl_R xi_ms 87 f127_ l128_ 0 [(0, .ref (Ac + 3))] [] _ _
  refine ga_aload_n (v := .ref (Ac + 3)) hm_87 rfl rfl rfl ?_
  refine fl_iconst hm_87 rfl ?_
  refine ga_puti (z := 0) hm_87 rfl hC1.1.1 rfl rfl ?_
  refine ga_aload_n (v := .ref (Ac + 3)) hm_87 rfl rfl rfl ?_
  refine fl_iconst hm_87 rfl ?_
  refine ga_puti (z := 0) hm_87 rfl hC1.1.1 rfl rfl ?_
  refine gr_v hm_87 rfl rfl ?_
  clear h129_ h130_ f127_ l128_
  refine ga_aload_n (v := .ref 118) hm_119 rfl rfl rfl ?_
  refine ga_getr (b := 1) hm_119 rfl sc_118 rfl ?_
  refine ga_ldcs hm_119 rfl ?_
  obtain ⟨F131_, q132_⟩ : ∃ F9_, F9_ = (fl_u (fl_u (fl_u (fl_u F108_ 119 2 ((Ac : Int))) 119 3 3) (Ac + 3) 4 0) (Ac + 3) 5 0) := ⟨_, rfl⟩
  rw [← q132_]
  have g133_ : gi F131_ := by rw [q132_]; exact gi_u (gi_u (gi_u (gi_u (g109_) rfl (by omega) (by omega)) rfl (by omega) (by omega)) hC1.2.1.1 (by omega) (by omega)) hC1.2.1.2.1 (by omega) (by omega)
  have g134_ : fs [(1, 1, 7, 7), (15, 17, 0, 100000), (Ac, Ac + 12, 0, 100000), (119, 119, 2, 3)] F F131_ := by rw [q132_]; exact fs_u (fs_u (fs_u (fs_u (g111_) (fs_z (fs_z (fs_z (fs_y (by omega)))))) (fs_z (fs_z (fs_z (fs_y (by omega)))))) (fs_z (fs_z (fs_y (by omega))))) (fs_z (fs_z (fs_y (by omega))))
  have tk135_ : tkh K F131_ := by rw [q132_]; exact tkh_u (tkh_u (tkh_u (tkh_u (tk112_) (by omega) (by omega)) (by omega) (by omega)) (by omega) (by omega)) (by omega) (by omega)
  have e136_ : F131_ 1 7 = F108_ 1 7 := by rw [q132_]; exact (fl_u_ne (by omega)).trans ((fl_u_ne (by omega)).trans ((fl_u_ne (by omega)).trans (fl_u_ne (by omega))))
  have b137_ : 0 ≤ F108_ 1 7 ∧ F108_ 1 7 ≤ 600 := gi_g g109_ rfl
  refine gVi (nY := 4) (F := 6) (L := 100) (As := [.retAddr 8]) (b := 1) (rest := []) hm_119 rfl hm_152 rfl rfl (fl_ob sc_1) rfl rfl rfl rfl rfl (by omega) (by omega) (mc_152 hG F131_ X g133_ (K) (8) ([58, 112, 114, 101, 99, 111, 110, 100, 105, 116, 105, 111, 110]) hgK tk135_ hko (by omega) (rfl) (by decide)) (fun _ _ h => False.elim h) ?_
  rintro z138_ A1_ (⟨hA_, hz_, c139_⟩ | ⟨hA_, hz_, c140_⟩)
  ·
    subst hA_
    subst hz_
    try simp only [e136_] at c139_
    refine fl_if_eq hm_119 rfl ⟨by omega, by omega⟩ (fun _ => ?_) (fun h => absurd (by omega) h)
    refine ga_aload_n (v := .ref 118) hm_119 rfl rfl rfl ?_
    refine ga_getr (b := 1) hm_119 rfl sc_118 rfl ?_
    refine ga_ldcs hm_119 rfl ?_
    refine gVv (nY := 2) (F := 7) (L := 123) (As := [.retAddr 14]) (b := 1) (rest := []) hm_119 rfl hm_155 rfl rfl (fl_ob sc_1) rfl rfl rfl rfl rfl (by omega) (by omega) (mc_155 hG F131_ X g133_ (K) (14) ([58, 101, 102, 102, 101, 99, 116]) hgK tk135_ hko (by omega) (rfl) (by decide)) ?_ ?_
    ·
      rintro j_ A1_ ⟨F142_, ⟨hJ_, hA_⟩, g143_, s144_, c141_⟩
      subst hA_
      subst hJ_
      try simp only [e136_] at c141_
      refine ⟨rfl, ?_⟩
      refine gw_v ?_
      have g145_ : fs [(1, 1, 7, 8), (15, 17, 0, 100000), (Ac, Ac + 12, 0, 100000), (119, 119, 2, 3)] F F142_ := fs_tr (fs_tr fs_refl g134_ (by simp [fs_le]; try omega)) s144_ (by simp [fs_le]; try omega)
      have b146_ : 0 ≤ F142_ 1 8 ∧ F142_ 1 8 ≤ 100000 := gi_g g143_ rfl
      exact ⟨F142_, ⟨rfl, rfl⟩, g143_, g145_, (by obtain ⟨e, c1, c2⟩ := c141_; exact ⟨e, (by (try simp only [Int.reduceToNat] at c1); rw [sp_action]; rw [c9_]; simp only [pb]; rw [c24_]; simp only [pb]; rw [c39_]; simp only [pb]; rw [c56_]; simp only [pb]; rw [c71_]; simp only [pb]; rw [ct1_]; simp only [pb]; rw [c106_]; simp only [pb]; rw [if_neg (by simp [c139_])]; simp only [pb]; rw [c1]; try rfl), c2⟩)⟩
    rintro A1_ ⟨F150_, hA_, g151_, s152_, c148_, c149_⟩
    subst hA_
    have g153_ : fs [(1, 1, 7, 7), (15, 17, 0, 100000), (Ac, Ac + 12, 0, 100000), (119, 119, 2, 3)] F F150_ := fs_tr g134_ s152_ (by simp [fs_le]; try omega)
    have tk154_ : tkh K F150_ := tkh_fs tk135_ s152_ (fun r k h => (fs_n (by omega) rfl)) (fs_n (by omega) rfl)
    try simp only [e136_] at c148_
    refine ga_aload_n (v := .ref 118) hm_119 rfl rfl rfl ?_
    refine ga_getr (b := 119) hm_119 rfl sc_118 rfl ?_
    refine ga_aload_n (v := .ref 118) hm_119 rfl rfl rfl ?_
    refine ga_getr (b := 7) hm_119 rfl sc_118 rfl ?_
    refine ga_getr (b := 20) hm_119 rfl sc_7 rfl ?_
    refine ga_iload_n (z := i) hm_119 rfl rfl ?_
    obtain ⟨a155_, r156_, n157_, q158_⟩ := ra_20 (i).toNat (by omega)
    refine fl_aald (z := i) (q := a155_) hm_119 rfl sc_20 (hG _ _ _ sc_20) rfl (by omega) (by simp only [List.length_cons, List.length_nil]; omega) (by simp only [List.length_cons, List.length_nil]; omega) r156_ ?_
    have x159_ : Ac + 8 = a155_ := by omega
    subst x159_
    refine fl_iconst hm_119 rfl ?_
    have b160_ : 0 ≤ F150_ 1 7 ∧ F150_ 1 7 ≤ 600 := gi_g g151_ rfl
    have e161_ : F131_ 119 2 = (Ac : Int) := by rw [q132_]; exact (fl_u_ne (by omega)).trans ((fl_u_ne (by omega)).trans ((fl_u_ne (by omega)).trans (fl_u_eq)))
    have e162_ : F150_ 119 2 = (Ac : Int) := (s152_ 119 2 rfl).trans (e161_)
    have e163_ : F131_ 119 3 = 3 := by rw [q132_]; exact (fl_u_ne (by omega)).trans ((fl_u_ne (by omega)).trans (fl_u_eq))
    have e164_ : F150_ 119 3 = 3 := (s152_ 119 3 rfl).trans (e163_)
    refine gVv (nY := 4) (F := 10) (L := 192) (As := [.ref (Ac + 8), .int (Int32.ofInt 1)]) (b := 119) (rest := []) hm_119 rfl hm_90 rfl rfl (fl_ob sc_119) rfl rfl rfl rfl rfl (by omega) (by omega) (mc_90 hG F150_ X g151_ (K) (Ac) (3) (Ac + 8) (4) (2) (0) (3) (l2_) (tl2_) (pl) (ps) (true) (1) hgK tk154_ hko (by omega) (hN) (by omega) (by omega) ((rep_fs (by rw [q132_]; exact (rep_u (rep_u (rep_u (rep_u (rep_fs ct2_ s110_ (fun _ => (fs_n (by omega) rfl)) (fs_n (by omega) rfl)) (by omega) (by omega)) (by omega) (by omega)) (by omega) (by omega)) (by omega) (by omega))) s152_ (fun _ => (fs_n (by omega) rfl)) (fs_n (by omega) rfl))) ((rep_fs (by rw [q132_]; exact (rep_u (rep_u (rep_u (rep_u (rep_fs ct3_ s110_ (fun _ => (fs_n (by omega) rfl)) (fs_n (by omega) rfl)) (by omega) (by omega)) (by omega) (by omega)) (by omega) (by omega)) (by omega) (by omega))) s152_ (fun _ => (fs_n (by omega) rfl)) (fs_n (by omega) rfl))) (by omega) hC2 (by omega) (by omega) ((rep_fs (by rw [q132_]; exact (rep_u (rep_u (rep_u (rep_u (rep_fs (rep_fs (rep_fs (rep_fs (rep_fs (rep_fs (rep_fs hpl s13_ (fun _ => (fs_n (by omega) rfl)) (fs_n (by omega) rfl)) s28_ (fun _ => (fs_n (by omega) rfl)) (fs_n (by omega) rfl)) s45_ (fun _ => (fs_n (by omega) (fs_n (by omega) rfl))) (fs_n (by omega) (fs_n (by omega) rfl))) s60_ (fun _ => (fs_n (by omega) rfl)) (fs_n (by omega) rfl)) s75_ (fun _ => (fs_n (by omega) rfl)) (fs_n (by omega) rfl)) s95_ (fun _ => (fs_n (by omega) (fs_n (by omega) rfl))) (fs_n (by omega) (fs_n (by omega) rfl))) s110_ (fun _ => (fs_n (by omega) rfl)) (fs_n (by omega) rfl)) (by omega) (by omega)) (by omega) (by omega)) (by omega) (by omega)) (by omega) (by omega))) s152_ (fun _ => (fs_n (by omega) rfl)) (fs_n (by omega) rfl))) ((prd_fs (by rw [q132_]; exact (prd_u (prd_u (prd_u (prd_u (prd_fs (prd_fs (prd_fs (prd_fs (prd_fs (prd_fs (prd_fs hps s13_ (fun _ _ _ => (fs_n (by omega) rfl))) s28_ (fun _ _ _ => (fs_n (by omega) rfl))) s45_ (fun _ _ _ => (fs_n (by omega) (fs_n (by omega) rfl)))) s60_ (fun _ _ _ => (fs_n (by omega) rfl))) s75_ (fun _ _ _ => (fs_n (by omega) rfl))) s95_ (fun _ _ _ => (fs_n (by omega) (fs_n (by omega) rfl)))) s110_ (fun _ _ _ => (fs_n (by omega) rfl))) (by omega)) (by omega)) (by omega)) (by omega))) s152_ (fun _ _ _ => (fs_n (by omega) rfl)))) (hpn) (rfl) (by omega)) ?_ ?_
    ·
      rintro j_ A1_ ⟨F166_, ⟨hJ_, hA_⟩, g167_, s168_, c165_⟩
      subst hA_
      subst hJ_
      refine ⟨rfl, ?_⟩
      refine gw_v ?_
      have g169_ : fs [(1, 1, 7, 8), (15, 17, 0, 100000), (Ac, Ac + 12, 0, 100000), (119, 119, 2, 3)] F F166_ := fs_tr (fs_tr fs_refl g153_ (by simp [fs_le]; try omega)) s168_ (by simp [fs_le]; try omega)
      have b170_ : 0 ≤ F166_ 1 8 ∧ F166_ 1 8 ≤ 100000 := gi_g g167_ rfl
      exact ⟨F166_, ⟨rfl, rfl⟩, g167_, g169_, (by obtain ⟨e, c1, c2⟩ := c165_; exact ⟨e, (by (try simp only [Int.reduceToNat] at c1); rw [sp_action]; rw [c9_]; simp only [pb]; rw [c24_]; simp only [pb]; rw [c39_]; simp only [pb]; rw [c56_]; simp only [pb]; rw [c71_]; simp only [pb]; rw [ct1_]; simp only [pb]; rw [c106_]; simp only [pb]; rw [if_neg (by simp [c139_])]; simp only [pb]; rw [c148_]; simp only [pb]; rw [c1]; try rfl), c2⟩)⟩
    rintro A1_ ⟨F175_, hA_, g176_, s177_, c172_, c173_, c174_⟩
    subst hA_
    have g178_ : fs [(1, 1, 7, 7), (15, 17, 0, 100000), (Ac, Ac + 12, 0, 100000), (119, 119, 2, 3)] F F175_ := fs_tr g153_ s177_ (by simp [fs_le]; try omega)
    have tk179_ : tkh K F175_ := tkh_fs tk154_ s177_ (fun r k h => (fs_n (by omega) (fs_n (by omega) (fs_n (by omega) rfl)))) (fs_n (by omega) (fs_n (by omega) (fs_n (by omega) rfl)))
    refine ga_aload_n (v := .ref 118) hm_119 rfl rfl rfl ?_
    refine ga_getr (b := 1) hm_119 rfl sc_118 rfl ?_
    refine fl_iconst hm_119 rfl ?_
    have b180_ : 0 ≤ F175_ 1 7 ∧ F175_ 1 7 ≤ 600 := gi_g g176_ rfl
    refine gVv (nY := 2) (F := 7) (L := 121) (As := [.int (Int32.ofInt 1)]) (b := 1) (rest := []) hm_119 rfl hm_24 rfl rfl (fl_ob sc_1) rfl rfl rfl rfl rfl (by omega) (by omega) (mc_24 hG F175_ X g176_ (K) (1) hgK tk179_ hko (by omega) (by omega)) ?_ ?_
    ·
      rintro j_ A1_ ⟨F182_, ⟨hJ_, hA_⟩, g183_, s184_, c181_⟩
      subst hA_
      subst hJ_
      refine ⟨rfl, ?_⟩
      refine gw_v ?_
      have g185_ : fs [(1, 1, 7, 8), (15, 17, 0, 100000), (Ac, Ac + 12, 0, 100000), (119, 119, 2, 3)] F F182_ := fs_tr (fs_tr fs_refl g178_ (by simp [fs_le]; try omega)) s184_ (by simp [fs_le]; try omega)
      have b186_ : 0 ≤ F182_ 1 8 ∧ F182_ 1 8 ≤ 100000 := gi_g g183_ rfl
      exact ⟨F182_, ⟨rfl, rfl⟩, g183_, g185_, (by obtain ⟨e, c1, c2⟩ := c181_; exact ⟨e, (by (try simp only [Int.reduceToNat] at c1); rw [sp_action]; rw [c9_]; simp only [pb]; rw [c24_]; simp only [pb]; rw [c39_]; simp only [pb]; rw [c56_]; simp only [pb]; rw [c71_]; simp only [pb]; rw [ct1_]; simp only [pb]; rw [c106_]; simp only [pb]; rw [if_neg (by simp [c139_])]; simp only [pb]; rw [c148_]; simp only [pb]; rw [c172_]; simp only [pb]; rw [c1]; try rfl), c2⟩)⟩
    rintro A1_ ⟨F190_, hA_, g191_, s192_, c188_, c189_⟩
    subst hA_
    have g193_ : fs [(1, 1, 7, 7), (15, 17, 0, 100000), (Ac, Ac + 12, 0, 100000), (119, 119, 2, 3)] F F190_ := fs_tr g178_ s192_ (by simp [fs_le]; try omega)
    have tk194_ : tkh K F190_ := tkh_fs tk179_ s192_ (fun r k h => (fs_n (by omega) rfl)) (fs_n (by omega) rfl)
    refine gr_v hm_119 rfl rfl ?_
    have b195_ : 0 ≤ F190_ 1 7 ∧ F190_ 1 7 ≤ 600 := gi_g g191_ rfl
    have e196_ : F58_ 15 2 = F43_ 15 2 := (s60_ 15 2 rfl).trans (rfl)
    have e197_ : F73_ 15 2 = F43_ 15 2 := (s75_ 15 2 rfl).trans (e196_)
    have e198_ : F93_ 15 2 = F43_ 15 2 := (s95_ 15 2 (fs_n (by omega) (fs_n (by omega) rfl))).trans (e197_)
    have e199_ : F108_ 15 2 = F43_ 15 2 := (s110_ 15 2 rfl).trans (e198_)
    have e200_ : F131_ 15 2 = F43_ 15 2 := by rw [q132_]; exact (fl_u_ne (by omega)).trans ((fl_u_ne (by omega)).trans ((fl_u_ne (by omega)).trans ((fl_u_ne (by omega)).trans (e199_))))
    have e201_ : F150_ 15 2 = F43_ 15 2 := (s152_ 15 2 rfl).trans (e200_)
    have e202_ : F175_ 15 2 = F43_ 15 2 := (s177_ 15 2 (fs_n (by omega) (fs_n (by omega) (fs_n (by omega) rfl)))).trans (e201_)
    have e203_ : F190_ 15 2 = F43_ 15 2 := (s192_ 15 2 rfl).trans (e202_)
    have b204_ : 0 ≤ F43_ 15 2 ∧ F43_ 15 2 ≤ 5 := gi_g g44_ rfl
    have e205_ : F131_ (Ac + 3) 4 = 0 := by rw [q132_]; exact (fl_u_ne (by omega)).trans (fl_u_eq)
    have e206_ : F150_ (Ac + 3) 4 = 0 := (s152_ (Ac + 3) 4 (fs_n (by omega) rfl)).trans (e205_)
    have e207_ : F175_ (Ac + 3) 4 = 0 := (s177_ (Ac + 3) 4 (fs_n (by omega) (fs_n (by omega) (fs_n (by omega) rfl)))).trans (e206_)
    have e208_ : F190_ (Ac + 3) 4 = 0 := (s192_ (Ac + 3) 4 (fs_n (by omega) rfl)).trans (e207_)
    exact ⟨F190_, rfl, g191_, g193_, (⟨_, _, ⟨by rw [sp_action]; rw [c9_]; simp only [pb]; rw [c24_]; simp only [pb]; rw [c39_]; simp only [pb]; rw [c56_]; simp only [pb]; rw [c71_]; simp only [pb]; rw [ct1_]; simp only [pb]; rw [c106_]; simp only [pb]; rw [if_neg (by simp [c139_])]; simp only [pb]; rw [c148_]; simp only [pb]; rw [c172_]; simp only [pb]; rw [c188_]; try simp only [pb], by (try simp only [List.length_append, List.length_singleton]); omega⟩, (rep_fs (rep_fs (rep_fs (by rw [q132_]; exact (rep_u (rep_u (rep_u (rep_u (rep_fs (rep_fs (rep_fs (rep_fs c41_ s60_ (fun _ => (fs_n (by omega) rfl)) (fs_n (by omega) rfl)) s75_ (fun _ => (fs_n (by omega) rfl)) (fs_n (by omega) rfl)) s95_ (fun _ => (fs_n (by omega) (fs_n (by omega) rfl))) (fs_n (by omega) (fs_n (by omega) rfl))) s110_ (fun _ => (fs_n (by omega) rfl)) (fs_n (by omega) rfl)) (by omega) (by omega)) (by omega) (by omega)) (by omega) (by omega)) (by omega) (by omega))) s152_ (fun _ => (fs_n (by omega) rfl)) (fs_n (by omega) rfl)) s177_ (fun _ => (fs_n (by omega) (fs_n (by omega) (fs_n (by omega) rfl)))) (fs_n (by omega) (fs_n (by omega) (fs_n (by omega) rfl)))) s192_ (fun _ => (fs_n (by omega) rfl)) (fs_n (by omega) rfl)), (rep_fs (rep_fs (rep_fs (by rw [q132_]; exact (rep_u (rep_u (rep_u (rep_u (rep_fs (rep_fs (rep_fs (rep_fs c42_ s60_ (fun _ => (fs_n (by omega) rfl)) (fs_n (by omega) rfl)) s75_ (fun _ => (fs_n (by omega) rfl)) (fs_n (by omega) rfl)) s95_ (fun _ => (fs_n (by omega) (fs_n (by omega) rfl))) (fs_n (by omega) (fs_n (by omega) rfl))) s110_ (fun _ => (fs_n (by omega) rfl)) (fs_n (by omega) rfl)) (by omega) (by omega)) (by omega) (by omega)) (by omega) (by omega)) (by omega) (by omega))) s152_ (fun _ => (fs_n (by omega) rfl)) (fs_n (by omega) rfl)) s177_ (fun _ => (fs_n (by omega) (fs_n (by omega) (fs_n (by omega) rfl)))) (fs_n (by omega) (fs_n (by omega) (fs_n (by omega) rfl)))) s192_ (fun _ => (fs_n (by omega) rfl)) (fs_n (by omega) rfl))⟩), (by omega), (by rw [show (i + 1).toNat = i.toNat + 1 by omega]; exact di_add (di_fs (di_fs (di_fs (by rw [q132_]; exact (di_u (di_u (di_u (di_u (di_fs (di_fs (di_fs (di_fs (di_fs (di_fs (di_fs hdi s13_ (fun _ _ _ => (fs_n (by omega) rfl))) s28_ (fun _ _ _ => (fs_n (by omega) rfl))) s45_ (fun _ _ _ => (fs_n (by omega) (fs_n (by omega) rfl)))) s60_ (fun _ _ _ => (fs_n (by omega) rfl))) s75_ (fun _ _ _ => (fs_n (by omega) rfl))) s95_ (fun _ _ _ => (fs_n (by omega) (fs_n (by omega) rfl)))) s110_ (fun _ _ _ => (fs_n (by omega) rfl))) (by omega)) (by omega)) (by omega)) (by omega))) s152_ (fun _ _ _ => (fs_n (by omega) rfl))) s177_ (fun _ _ _ => (fs_n (by omega) (fs_n (by omega) (fs_n (by omega) rfl))))) s192_ (fun _ _ _ => (fs_n (by omega) rfl))) (m := (l2_.length : Int)) (by omega) (cw_nil (e208_)) (cw_fs c174_ s192_ (fun r j hj => (fs_n (by omega) rfl))) (rep_fs (rep_fs (rep_fs (by rw [q132_]; exact (rep_u (rep_u (rep_u (rep_u (rep_fs ct2_ s110_ (fun _ => (fs_n (by omega) rfl)) (fs_n (by omega) rfl)) (by omega) (by omega)) (by omega) (by omega)) (by omega) (by omega)) (by omega) (by omega))) s152_ (fun _ => (fs_n (by omega) rfl)) (fs_n (by omega) rfl)) s177_ (fun _ => (fs_n (by omega) (fs_n (by omega) (fs_n (by omega) rfl)))) (fs_n (by omega) (fs_n (by omega) (fs_n (by omega) rfl)))) s192_ (fun _ => (fs_n (by omega) rfl)) (fs_n (by omega) rfl)).1)⟩
  subst hA_
  subst hz_
  try simp only [e136_] at c140_
  refine fl_if_eq hm_119 rfl ⟨by omega, by omega⟩ (fun h => absurd h (by omega)) (fun _ => ?_)
  refine ga_aload_n (v := .ref 118) hm_119 rfl rfl rfl ?_
  refine ga_getr (b := 1) hm_119 rfl sc_118 rfl ?_
  refine gVv (nY := 1) (F := 0) (L := 0) (As := []) (b := 1) (rest := []) hm_119 rfl hm_154 rfl rfl (fl_ob sc_1) rfl rfl rfl rfl rfl (by omega) (by omega) (mc_154 hG F131_ X g133_ (K) hgK tk135_ hko (by omega)) (fun _ _ h => False.elim h) ?_
  rintro A1_ ⟨F212_, hA_, g213_, s214_, c210_, c211_⟩
  subst hA_
  have g215_ : fs [(1, 1, 7, 7), (15, 17, 0, 100000), (Ac, Ac + 12, 0, 100000), (119, 119, 2, 3)] F F212_ := fs_tr g134_ s214_ (by simp [fs_le]; try omega)
  have tk216_ : tkh K F212_ := tkh_fs tk135_ s214_ (fun r k h => (fs_n (by omega) rfl)) (fs_n (by omega) rfl)
  try simp only [e136_] at c210_
  refine ga_aload_n (v := .ref 118) hm_119 rfl rfl rfl ?_
  refine ga_getr (b := 119) hm_119 rfl sc_118 rfl ?_
  refine ga_aload_n (v := .ref 118) hm_119 rfl rfl rfl ?_
  refine ga_getr (b := 7) hm_119 rfl sc_118 rfl ?_
  refine ga_getr (b := 19) hm_119 rfl sc_7 rfl ?_
  refine ga_iload_n (z := i) hm_119 rfl rfl ?_
  obtain ⟨a217_, r218_, n219_, q220_⟩ := ra_19 (i).toNat (by omega)
  refine fl_aald (z := i) (q := a217_) hm_119 rfl sc_19 (hG _ _ _ sc_19) rfl (by omega) (by simp only [List.length_cons, List.length_nil]; omega) (by simp only [List.length_cons, List.length_nil]; omega) r218_ ?_
  have x221_ : Ac + 3 = a217_ := by omega
  subst x221_
  refine fl_iconst hm_119 rfl ?_
  have b222_ : 0 ≤ F212_ 1 7 ∧ F212_ 1 7 ≤ 600 := gi_g g213_ rfl
  have e223_ : F131_ 119 2 = (Ac : Int) := by rw [q132_]; exact (fl_u_ne (by omega)).trans ((fl_u_ne (by omega)).trans ((fl_u_ne (by omega)).trans (fl_u_eq)))
  have e224_ : F212_ 119 2 = (Ac : Int) := (s214_ 119 2 rfl).trans (e223_)
  have e225_ : F131_ 119 3 = 3 := by rw [q132_]; exact (fl_u_ne (by omega)).trans ((fl_u_ne (by omega)).trans (fl_u_eq))
  have e226_ : F212_ 119 3 = 3 := (s214_ 119 3 rfl).trans (e225_)
  refine gVv (nY := 4) (F := 10) (L := 192) (As := [.ref (Ac + 3), .int (Int32.ofInt 0)]) (b := 119) (rest := []) hm_119 rfl hm_90 rfl rfl (fl_ob sc_119) rfl rfl rfl rfl rfl (by omega) (by omega) (mc_90 hG F212_ X g213_ (K) (Ac) (3) (Ac + 3) (4) (2) (-1) (3) (l2_) (tl2_) (pl) (ps) (false) (0) hgK tk216_ hko (by omega) (hN) (by omega) (by omega) ((rep_fs (by rw [q132_]; exact (rep_u (rep_u (rep_u (rep_u (rep_fs ct2_ s110_ (fun _ => (fs_n (by omega) rfl)) (fs_n (by omega) rfl)) (by omega) (by omega)) (by omega) (by omega)) (by omega) (by omega)) (by omega) (by omega))) s214_ (fun _ => (fs_n (by omega) rfl)) (fs_n (by omega) rfl))) ((rep_fs (by rw [q132_]; exact (rep_u (rep_u (rep_u (rep_u (rep_fs ct3_ s110_ (fun _ => (fs_n (by omega) rfl)) (fs_n (by omega) rfl)) (by omega) (by omega)) (by omega) (by omega)) (by omega) (by omega)) (by omega) (by omega))) s214_ (fun _ => (fs_n (by omega) rfl)) (fs_n (by omega) rfl))) (by omega) hC1 (by omega) (by omega) ((rep_fs (by rw [q132_]; exact (rep_u (rep_u (rep_u (rep_u (rep_fs (rep_fs (rep_fs (rep_fs (rep_fs (rep_fs (rep_fs hpl s13_ (fun _ => (fs_n (by omega) rfl)) (fs_n (by omega) rfl)) s28_ (fun _ => (fs_n (by omega) rfl)) (fs_n (by omega) rfl)) s45_ (fun _ => (fs_n (by omega) (fs_n (by omega) rfl))) (fs_n (by omega) (fs_n (by omega) rfl))) s60_ (fun _ => (fs_n (by omega) rfl)) (fs_n (by omega) rfl)) s75_ (fun _ => (fs_n (by omega) rfl)) (fs_n (by omega) rfl)) s95_ (fun _ => (fs_n (by omega) (fs_n (by omega) rfl))) (fs_n (by omega) (fs_n (by omega) rfl))) s110_ (fun _ => (fs_n (by omega) rfl)) (fs_n (by omega) rfl)) (by omega) (by omega)) (by omega) (by omega)) (by omega) (by omega)) (by omega) (by omega))) s214_ (fun _ => (fs_n (by omega) rfl)) (fs_n (by omega) rfl))) ((prd_fs (by rw [q132_]; exact (prd_u (prd_u (prd_u (prd_u (prd_fs (prd_fs (prd_fs (prd_fs (prd_fs (prd_fs (prd_fs hps s13_ (fun _ _ _ => (fs_n (by omega) rfl))) s28_ (fun _ _ _ => (fs_n (by omega) rfl))) s45_ (fun _ _ _ => (fs_n (by omega) (fs_n (by omega) rfl)))) s60_ (fun _ _ _ => (fs_n (by omega) rfl))) s75_ (fun _ _ _ => (fs_n (by omega) rfl))) s95_ (fun _ _ _ => (fs_n (by omega) (fs_n (by omega) rfl)))) s110_ (fun _ _ _ => (fs_n (by omega) rfl))) (by omega)) (by omega)) (by omega)) (by omega))) s214_ (fun _ _ _ => (fs_n (by omega) rfl)))) (hpn) (rfl) (by omega)) ?_ ?_
  ·
    rintro j_ A1_ ⟨F228_, ⟨hJ_, hA_⟩, g229_, s230_, c227_⟩
    subst hA_
    subst hJ_
    refine ⟨rfl, ?_⟩
    refine gw_v ?_
    have g231_ : fs [(1, 1, 7, 8), (15, 17, 0, 100000), (Ac, Ac + 12, 0, 100000), (119, 119, 2, 3)] F F228_ := fs_tr (fs_tr fs_refl g215_ (by simp [fs_le]; try omega)) s230_ (by simp [fs_le]; try omega)
    have b232_ : 0 ≤ F228_ 1 8 ∧ F228_ 1 8 ≤ 100000 := gi_g g229_ rfl
    exact ⟨F228_, ⟨rfl, rfl⟩, g229_, g231_, (by obtain ⟨e, c1, c2⟩ := c227_; exact ⟨e, (by (try simp only [Int.reduceToNat] at c1); rw [sp_action]; rw [c9_]; simp only [pb]; rw [c24_]; simp only [pb]; rw [c39_]; simp only [pb]; rw [c56_]; simp only [pb]; rw [c71_]; simp only [pb]; rw [ct1_]; simp only [pb]; rw [c106_]; simp only [pb]; rw [if_pos c140_, c210_]; rw [c1]; try rfl), c2⟩)⟩
  rintro A1_ ⟨F237_, hA_, g238_, s239_, c234_, c235_, c236_⟩
  subst hA_
  have g240_ : fs [(1, 1, 7, 7), (15, 17, 0, 100000), (Ac, Ac + 12, 0, 100000), (119, 119, 2, 3)] F F237_ := fs_tr g215_ s239_ (by simp [fs_le]; try omega)
  have tk241_ : tkh K F237_ := tkh_fs tk216_ s239_ (fun r k h => (fs_n (by omega) (fs_n (by omega) (fs_n (by omega) rfl)))) (fs_n (by omega) (fs_n (by omega) (fs_n (by omega) rfl)))
  refine ga_aload_n (v := .ref 118) hm_119 rfl rfl rfl ?_
  refine ga_getr (b := 1) hm_119 rfl sc_118 rfl ?_
  refine ga_ldcs hm_119 rfl ?_
  have b242_ : 0 ≤ F237_ 1 7 ∧ F237_ 1 7 ≤ 600 := gi_g g238_ rfl
  refine gVv (nY := 2) (F := 7) (L := 123) (As := [.retAddr 14]) (b := 1) (rest := []) hm_119 rfl hm_155 rfl rfl (fl_ob sc_1) rfl rfl rfl rfl rfl (by omega) (by omega) (mc_155 hG F237_ X g238_ (K) (14) ([58, 101, 102, 102, 101, 99, 116]) hgK tk241_ hko (by omega) (rfl) (by decide)) ?_ ?_
  ·
    rintro j_ A1_ ⟨F244_, ⟨hJ_, hA_⟩, g245_, s246_, c243_⟩
    subst hA_
    subst hJ_
    refine ⟨rfl, ?_⟩
    refine gw_v ?_
    have g247_ : fs [(1, 1, 7, 8), (15, 17, 0, 100000), (Ac, Ac + 12, 0, 100000), (119, 119, 2, 3)] F F244_ := fs_tr (fs_tr fs_refl g240_ (by simp [fs_le]; try omega)) s246_ (by simp [fs_le]; try omega)
    have b248_ : 0 ≤ F244_ 1 8 ∧ F244_ 1 8 ≤ 100000 := gi_g g245_ rfl
    exact ⟨F244_, ⟨rfl, rfl⟩, g245_, g247_, (by obtain ⟨e, c1, c2⟩ := c243_; exact ⟨e, (by (try simp only [Int.reduceToNat] at c1); rw [sp_action]; rw [c9_]; simp only [pb]; rw [c24_]; simp only [pb]; rw [c39_]; simp only [pb]; rw [c56_]; simp only [pb]; rw [c71_]; simp only [pb]; rw [ct1_]; simp only [pb]; rw [c106_]; simp only [pb]; rw [if_pos c140_, c210_]; rw [c234_]; simp only [pb]; rw [c1]; try rfl), c2⟩)⟩
  rintro A1_ ⟨F252_, hA_, g253_, s254_, c250_, c251_⟩
  subst hA_
  have g255_ : fs [(1, 1, 7, 7), (15, 17, 0, 100000), (Ac, Ac + 12, 0, 100000), (119, 119, 2, 3)] F F252_ := fs_tr g240_ s254_ (by simp [fs_le]; try omega)
  have tk256_ : tkh K F252_ := tkh_fs tk241_ s254_ (fun r k h => (fs_n (by omega) rfl)) (fs_n (by omega) rfl)
  refine ga_aload_n (v := .ref 118) hm_119 rfl rfl rfl ?_
  refine ga_getr (b := 119) hm_119 rfl sc_118 rfl ?_
  refine ga_aload_n (v := .ref 118) hm_119 rfl rfl rfl ?_
  refine ga_getr (b := 7) hm_119 rfl sc_118 rfl ?_
  refine ga_getr (b := 20) hm_119 rfl sc_7 rfl ?_
  refine ga_iload_n (z := i) hm_119 rfl rfl ?_
  obtain ⟨a257_, r258_, n259_, q260_⟩ := ra_20 (i).toNat (by omega)
  refine fl_aald (z := i) (q := a257_) hm_119 rfl sc_20 (hG _ _ _ sc_20) rfl (by omega) (by simp only [List.length_cons, List.length_nil]; omega) (by simp only [List.length_cons, List.length_nil]; omega) r258_ ?_
  have x261_ : Ac + 8 = a257_ := by omega
  subst x261_
  refine fl_iconst hm_119 rfl ?_
  have b262_ : 0 ≤ F252_ 1 7 ∧ F252_ 1 7 ≤ 600 := gi_g g253_ rfl
  have e263_ : F237_ 119 2 = (Ac : Int) := (s239_ 119 2 (fs_n (by omega) (fs_n (by omega) (fs_n (by omega) rfl)))).trans (e224_)
  have e264_ : F252_ 119 2 = (Ac : Int) := (s254_ 119 2 rfl).trans (e263_)
  have e265_ : F237_ 119 3 = 3 := (s239_ 119 3 (fs_n (by omega) (fs_n (by omega) (fs_n (by omega) rfl)))).trans (e226_)
  have e266_ : F252_ 119 3 = 3 := (s254_ 119 3 rfl).trans (e265_)
  refine gVv (nY := 4) (F := 10) (L := 192) (As := [.ref (Ac + 8), .int (Int32.ofInt 1)]) (b := 119) (rest := []) hm_119 rfl hm_90 rfl rfl (fl_ob sc_119) rfl rfl rfl rfl rfl (by omega) (by omega) (mc_90 hG F252_ X g253_ (K) (Ac) (3) (Ac + 8) (4) (2) (0) (3) (l2_) (tl2_) (pl) (ps) (true) (1) hgK tk256_ hko (by omega) (hN) (by omega) (by omega) ((rep_fs (rep_fs (rep_fs (by rw [q132_]; exact (rep_u (rep_u (rep_u (rep_u (rep_fs ct2_ s110_ (fun _ => (fs_n (by omega) rfl)) (fs_n (by omega) rfl)) (by omega) (by omega)) (by omega) (by omega)) (by omega) (by omega)) (by omega) (by omega))) s214_ (fun _ => (fs_n (by omega) rfl)) (fs_n (by omega) rfl)) s239_ (fun _ => (fs_n (by omega) (fs_n (by omega) (fs_n (by omega) rfl)))) (fs_n (by omega) (fs_n (by omega) (fs_n (by omega) rfl)))) s254_ (fun _ => (fs_n (by omega) rfl)) (fs_n (by omega) rfl))) ((rep_fs (rep_fs (rep_fs (by rw [q132_]; exact (rep_u (rep_u (rep_u (rep_u (rep_fs ct3_ s110_ (fun _ => (fs_n (by omega) rfl)) (fs_n (by omega) rfl)) (by omega) (by omega)) (by omega) (by omega)) (by omega) (by omega)) (by omega) (by omega))) s214_ (fun _ => (fs_n (by omega) rfl)) (fs_n (by omega) rfl)) s239_ (fun _ => (fs_n (by omega) (fs_n (by omega) (fs_n (by omega) rfl)))) (fs_n (by omega) (fs_n (by omega) (fs_n (by omega) rfl)))) s254_ (fun _ => (fs_n (by omega) rfl)) (fs_n (by omega) rfl))) (by omega) hC2 (by omega) (by omega) ((rep_fs (rep_fs (rep_fs (by rw [q132_]; exact (rep_u (rep_u (rep_u (rep_u (rep_fs (rep_fs (rep_fs (rep_fs (rep_fs (rep_fs (rep_fs hpl s13_ (fun _ => (fs_n (by omega) rfl)) (fs_n (by omega) rfl)) s28_ (fun _ => (fs_n (by omega) rfl)) (fs_n (by omega) rfl)) s45_ (fun _ => (fs_n (by omega) (fs_n (by omega) rfl))) (fs_n (by omega) (fs_n (by omega) rfl))) s60_ (fun _ => (fs_n (by omega) rfl)) (fs_n (by omega) rfl)) s75_ (fun _ => (fs_n (by omega) rfl)) (fs_n (by omega) rfl)) s95_ (fun _ => (fs_n (by omega) (fs_n (by omega) rfl))) (fs_n (by omega) (fs_n (by omega) rfl))) s110_ (fun _ => (fs_n (by omega) rfl)) (fs_n (by omega) rfl)) (by omega) (by omega)) (by omega) (by omega)) (by omega) (by omega)) (by omega) (by omega))) s214_ (fun _ => (fs_n (by omega) rfl)) (fs_n (by omega) rfl)) s239_ (fun _ => (fs_n (by omega) (fs_n (by omega) (fs_n (by omega) rfl)))) (fs_n (by omega) (fs_n (by omega) (fs_n (by omega) rfl)))) s254_ (fun _ => (fs_n (by omega) rfl)) (fs_n (by omega) rfl))) ((prd_fs (prd_fs (prd_fs (by rw [q132_]; exact (prd_u (prd_u (prd_u (prd_u (prd_fs (prd_fs (prd_fs (prd_fs (prd_fs (prd_fs (prd_fs hps s13_ (fun _ _ _ => (fs_n (by omega) rfl))) s28_ (fun _ _ _ => (fs_n (by omega) rfl))) s45_ (fun _ _ _ => (fs_n (by omega) (fs_n (by omega) rfl)))) s60_ (fun _ _ _ => (fs_n (by omega) rfl))) s75_ (fun _ _ _ => (fs_n (by omega) rfl))) s95_ (fun _ _ _ => (fs_n (by omega) (fs_n (by omega) rfl)))) s110_ (fun _ _ _ => (fs_n (by omega) rfl))) (by omega)) (by omega)) (by omega)) (by omega))) s214_ (fun _ _ _ => (fs_n (by omega) rfl))) s239_ (fun _ _ _ => (fs_n (by omega) (fs_n (by omega) (fs_n (by omega) rfl))))) s254_ (fun _ _ _ => (fs_n (by omega) rfl)))) (hpn) (rfl) (by omega)) ?_ ?_
  ·
    rintro j_ A1_ ⟨F268_, ⟨hJ_, hA_⟩, g269_, s270_, c267_⟩
    subst hA_
    subst hJ_
    refine ⟨rfl, ?_⟩
    refine gw_v ?_
    have g271_ : fs [(1, 1, 7, 8), (15, 17, 0, 100000), (Ac, Ac + 12, 0, 100000), (119, 119, 2, 3)] F F268_ := fs_tr (fs_tr fs_refl g255_ (by simp [fs_le]; try omega)) s270_ (by simp [fs_le]; try omega)
    have b272_ : 0 ≤ F268_ 1 8 ∧ F268_ 1 8 ≤ 100000 := gi_g g269_ rfl
    exact ⟨F268_, ⟨rfl, rfl⟩, g269_, g271_, (by obtain ⟨e, c1, c2⟩ := c267_; exact ⟨e, (by (try simp only [Int.reduceToNat] at c1); rw [sp_action]; rw [c9_]; simp only [pb]; rw [c24_]; simp only [pb]; rw [c39_]; simp only [pb]; rw [c56_]; simp only [pb]; rw [c71_]; simp only [pb]; rw [ct1_]; simp only [pb]; rw [c106_]; simp only [pb]; rw [if_pos c140_, c210_]; rw [c234_]; simp only [pb]; rw [c250_]; simp only [pb]; rw [c1]; try rfl), c2⟩)⟩
  rintro A1_ ⟨F277_, hA_, g278_, s279_, c274_, c275_, c276_⟩
  subst hA_
  have g280_ : fs [(1, 1, 7, 7), (15, 17, 0, 100000), (Ac, Ac + 12, 0, 100000), (119, 119, 2, 3)] F F277_ := fs_tr g255_ s279_ (by simp [fs_le]; try omega)
  have tk281_ : tkh K F277_ := tkh_fs tk256_ s279_ (fun r k h => (fs_n (by omega) (fs_n (by omega) (fs_n (by omega) rfl)))) (fs_n (by omega) (fs_n (by omega) (fs_n (by omega) rfl)))
  refine ga_aload_n (v := .ref 118) hm_119 rfl rfl rfl ?_
  refine ga_getr (b := 1) hm_119 rfl sc_118 rfl ?_
  refine fl_iconst hm_119 rfl ?_
  have b282_ : 0 ≤ F277_ 1 7 ∧ F277_ 1 7 ≤ 600 := gi_g g278_ rfl
  refine gVv (nY := 2) (F := 7) (L := 121) (As := [.int (Int32.ofInt 1)]) (b := 1) (rest := []) hm_119 rfl hm_24 rfl rfl (fl_ob sc_1) rfl rfl rfl rfl rfl (by omega) (by omega) (mc_24 hG F277_ X g278_ (K) (1) hgK tk281_ hko (by omega) (by omega)) ?_ ?_
  ·
    rintro j_ A1_ ⟨F284_, ⟨hJ_, hA_⟩, g285_, s286_, c283_⟩
    subst hA_
    subst hJ_
    refine ⟨rfl, ?_⟩
    refine gw_v ?_
    have g287_ : fs [(1, 1, 7, 8), (15, 17, 0, 100000), (Ac, Ac + 12, 0, 100000), (119, 119, 2, 3)] F F284_ := fs_tr (fs_tr fs_refl g280_ (by simp [fs_le]; try omega)) s286_ (by simp [fs_le]; try omega)
    have b288_ : 0 ≤ F284_ 1 8 ∧ F284_ 1 8 ≤ 100000 := gi_g g285_ rfl
    exact ⟨F284_, ⟨rfl, rfl⟩, g285_, g287_, (by obtain ⟨e, c1, c2⟩ := c283_; exact ⟨e, (by (try simp only [Int.reduceToNat] at c1); rw [sp_action]; rw [c9_]; simp only [pb]; rw [c24_]; simp only [pb]; rw [c39_]; simp only [pb]; rw [c56_]; simp only [pb]; rw [c71_]; simp only [pb]; rw [ct1_]; simp only [pb]; rw [c106_]; simp only [pb]; rw [if_pos c140_, c210_]; rw [c234_]; simp only [pb]; rw [c250_]; simp only [pb]; rw [c274_]; simp only [pb]; rw [c1]; try rfl), c2⟩)⟩
  rintro A1_ ⟨F292_, hA_, g293_, s294_, c290_, c291_⟩
  subst hA_
  have g295_ : fs [(1, 1, 7, 7), (15, 17, 0, 100000), (Ac, Ac + 12, 0, 100000), (119, 119, 2, 3)] F F292_ := fs_tr g280_ s294_ (by simp [fs_le]; try omega)
  have tk296_ : tkh K F292_ := tkh_fs tk281_ s294_ (fun r k h => (fs_n (by omega) rfl)) (fs_n (by omega) rfl)
  refine gr_v hm_119 rfl rfl ?_
  have b297_ : 0 ≤ F292_ 1 7 ∧ F292_ 1 7 ≤ 600 := gi_g g293_ rfl
  have e298_ : F58_ 15 2 = F43_ 15 2 := (s60_ 15 2 rfl).trans (rfl)
  have e299_ : F73_ 15 2 = F43_ 15 2 := (s75_ 15 2 rfl).trans (e298_)
  have e300_ : F93_ 15 2 = F43_ 15 2 := (s95_ 15 2 (fs_n (by omega) (fs_n (by omega) rfl))).trans (e299_)
  have e301_ : F108_ 15 2 = F43_ 15 2 := (s110_ 15 2 rfl).trans (e300_)
  have e302_ : F131_ 15 2 = F43_ 15 2 := by rw [q132_]; exact (fl_u_ne (by omega)).trans ((fl_u_ne (by omega)).trans ((fl_u_ne (by omega)).trans ((fl_u_ne (by omega)).trans (e301_))))
  have e303_ : F212_ 15 2 = F43_ 15 2 := (s214_ 15 2 rfl).trans (e302_)
  have e304_ : F237_ 15 2 = F43_ 15 2 := (s239_ 15 2 (fs_n (by omega) (fs_n (by omega) (fs_n (by omega) rfl)))).trans (e303_)
  have e305_ : F252_ 15 2 = F43_ 15 2 := (s254_ 15 2 rfl).trans (e304_)
  have e306_ : F277_ 15 2 = F43_ 15 2 := (s279_ 15 2 (fs_n (by omega) (fs_n (by omega) (fs_n (by omega) rfl)))).trans (e305_)
  have e307_ : F292_ 15 2 = F43_ 15 2 := (s294_ 15 2 rfl).trans (e306_)
  have b308_ : 0 ≤ F43_ 15 2 ∧ F43_ 15 2 ≤ 5 := gi_g g44_ rfl
  exact ⟨F292_, rfl, g293_, g295_, (⟨_, _, ⟨by rw [sp_action]; rw [c9_]; simp only [pb]; rw [c24_]; simp only [pb]; rw [c39_]; simp only [pb]; rw [c56_]; simp only [pb]; rw [c71_]; simp only [pb]; rw [ct1_]; simp only [pb]; rw [c106_]; simp only [pb]; rw [if_pos c140_, c210_]; rw [c234_]; simp only [pb]; rw [c250_]; simp only [pb]; rw [c274_]; simp only [pb]; rw [c290_]; try simp only [pb], by (try simp only [List.length_append, List.length_singleton]); omega⟩, (rep_fs (rep_fs (rep_fs (rep_fs (rep_fs (by rw [q132_]; exact (rep_u (rep_u (rep_u (rep_u (rep_fs (rep_fs (rep_fs (rep_fs c41_ s60_ (fun _ => (fs_n (by omega) rfl)) (fs_n (by omega) rfl)) s75_ (fun _ => (fs_n (by omega) rfl)) (fs_n (by omega) rfl)) s95_ (fun _ => (fs_n (by omega) (fs_n (by omega) rfl))) (fs_n (by omega) (fs_n (by omega) rfl))) s110_ (fun _ => (fs_n (by omega) rfl)) (fs_n (by omega) rfl)) (by omega) (by omega)) (by omega) (by omega)) (by omega) (by omega)) (by omega) (by omega))) s214_ (fun _ => (fs_n (by omega) rfl)) (fs_n (by omega) rfl)) s239_ (fun _ => (fs_n (by omega) (fs_n (by omega) (fs_n (by omega) rfl)))) (fs_n (by omega) (fs_n (by omega) (fs_n (by omega) rfl)))) s254_ (fun _ => (fs_n (by omega) rfl)) (fs_n (by omega) rfl)) s279_ (fun _ => (fs_n (by omega) (fs_n (by omega) (fs_n (by omega) rfl)))) (fs_n (by omega) (fs_n (by omega) (fs_n (by omega) rfl)))) s294_ (fun _ => (fs_n (by omega) rfl)) (fs_n (by omega) rfl)), (rep_fs (rep_fs (rep_fs (rep_fs (rep_fs (by rw [q132_]; exact (rep_u (rep_u (rep_u (rep_u (rep_fs (rep_fs (rep_fs (rep_fs c42_ s60_ (fun _ => (fs_n (by omega) rfl)) (fs_n (by omega) rfl)) s75_ (fun _ => (fs_n (by omega) rfl)) (fs_n (by omega) rfl)) s95_ (fun _ => (fs_n (by omega) (fs_n (by omega) rfl))) (fs_n (by omega) (fs_n (by omega) rfl))) s110_ (fun _ => (fs_n (by omega) rfl)) (fs_n (by omega) rfl)) (by omega) (by omega)) (by omega) (by omega)) (by omega) (by omega)) (by omega) (by omega))) s214_ (fun _ => (fs_n (by omega) rfl)) (fs_n (by omega) rfl)) s239_ (fun _ => (fs_n (by omega) (fs_n (by omega) (fs_n (by omega) rfl)))) (fs_n (by omega) (fs_n (by omega) (fs_n (by omega) rfl)))) s254_ (fun _ => (fs_n (by omega) rfl)) (fs_n (by omega) rfl)) s279_ (fun _ => (fs_n (by omega) (fs_n (by omega) (fs_n (by omega) rfl)))) (fs_n (by omega) (fs_n (by omega) (fs_n (by omega) rfl)))) s294_ (fun _ => (fs_n (by omega) rfl)) (fs_n (by omega) rfl))⟩), (by omega), (by rw [show (i + 1).toNat = i.toNat + 1 by omega]; exact di_add (di_fs (di_fs (di_fs (di_fs (di_fs (by rw [q132_]; exact (di_u (di_u (di_u (di_u (di_fs (di_fs (di_fs (di_fs (di_fs (di_fs (di_fs hdi s13_ (fun _ _ _ => (fs_n (by omega) rfl))) s28_ (fun _ _ _ => (fs_n (by omega) rfl))) s45_ (fun _ _ _ => (fs_n (by omega) (fs_n (by omega) rfl)))) s60_ (fun _ _ _ => (fs_n (by omega) rfl))) s75_ (fun _ _ _ => (fs_n (by omega) rfl))) s95_ (fun _ _ _ => (fs_n (by omega) (fs_n (by omega) rfl)))) s110_ (fun _ _ _ => (fs_n (by omega) rfl))) (by omega)) (by omega)) (by omega)) (by omega))) s214_ (fun _ _ _ => (fs_n (by omega) rfl))) s239_ (fun _ _ _ => (fs_n (by omega) (fs_n (by omega) (fs_n (by omega) rfl))))) s254_ (fun _ _ _ => (fs_n (by omega) rfl))) s279_ (fun _ _ _ => (fs_n (by omega) (fs_n (by omega) (fs_n (by omega) rfl))))) s294_ (fun _ _ _ => (fs_n (by omega) rfl))) (m := (l2_.length : Int)) (by omega) (cw_fs (cw_fs (cw_fs c236_ s254_ (fun r j hj => (fs_n (by omega) rfl))) s279_ (fun r j hj => (fs_n (by omega) (fs_n (by omega) (fs_n (by omega) rfl))))) s294_ (fun r j hj => (fs_n (by omega) rfl))) (cw_fs c276_ s294_ (fun r j hj => (fs_n (by omega) rfl))) (rep_fs (rep_fs (rep_fs (rep_fs (rep_fs (by rw [q132_]; exact (rep_u (rep_u (rep_u (rep_u (rep_fs ct2_ s110_ (fun _ => (fs_n (by omega) rfl)) (fs_n (by omega) rfl)) (by omega) (by omega)) (by omega) (by omega)) (by omega) (by omega)) (by omega) (by omega))) s214_ (fun _ => (fs_n (by omega) rfl)) (fs_n (by omega) rfl)) s239_ (fun _ => (fs_n (by omega) (fs_n (by omega) (fs_n (by omega) rfl)))) (fs_n (by omega) (fs_n (by omega) (fs_n (by omega) rfl)))) s254_ (fun _ => (fs_n (by omega) rfl)) (fs_n (by omega) rfl)) s279_ (fun _ => (fs_n (by omega) (fs_n (by omega) (fs_n (by omega) rfl)))) (fs_n (by omega) (fs_n (by omega) (fs_n (by omega) rfl)))) s294_ (fun _ => (fs_n (by omega) rfl)) (fs_n (by omega) rfl)).1)⟩

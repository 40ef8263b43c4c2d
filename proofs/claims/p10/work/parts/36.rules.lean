/-! RULES for programs that write proofs: values are told -/
section GA
variable {Ms : List xi_M} {y fr lo pc : Nat} {M : xi_M} {lv lv2 : xi_L} {st r : List Value} {A : xi_H} {nx : Nat} {aux : List Nat} {Q : Outcome → xi_H → Prop} {T : List fl_T} {G : Nat → Nat → Option Nat} {F : fl_N} {X : xi_H}
theorem ga_aload_n {k : Fin 4} {v : Value} (hM : Ms[y]? = some M) (hrow : xi_row M.2.2.2.2.1 pc = some (.aload_n k, nx, aux)) (hg : xi_get lv k.val = some v) (hv : xi_isr v = true) (hk : fl_R Ms y fr lo nx lv (v :: r) A Q) : fl_R Ms y fr lo pc lv r A Q := by
  refine fl_s (pc' := nx) (lv' := lv) (st' := v :: r) (A' := A) hM hrow rfl ?_ rfl hk
  simp only [xi_s, hg]
  rw [if_pos hv]
theorem ga_iload_n {k : Fin 4} {z : Int} (hM : Ms[y]? = some M) (hrow : xi_row M.2.2.2.2.1 pc = some (.iload_n k, nx, aux)) (hg : xi_get lv k.val = some (.int (Int32.ofInt z))) (hk : fl_R Ms y fr lo nx lv (.int (Int32.ofInt z) :: r) A Q) : fl_R Ms y fr lo pc lv r A Q := by
  refine fl_s (pc' := nx) (lv' := lv) (st' := .int (Int32.ofInt z) :: r) (A' := A) hM hrow rfl ?_ rfl hk
  simp only [xi_s, hg]
theorem ga_lload_n {k : Fin 4} {z : Int} (hM : Ms[y]? = some M) (hrow : xi_row M.2.2.2.2.1 pc = some (.lload_n k, nx, aux)) (hg : xi_get lv k.val = some (.long (Int64.ofInt z))) (hk : fl_R Ms y fr lo nx lv (.long (Int64.ofInt z) :: r) A Q) : fl_R Ms y fr lo pc lv r A Q := by
  refine fl_s (pc' := nx) (lv' := lv) (st' := .long (Int64.ofInt z) :: r) (A' := A) hM hrow rfl ?_ rfl hk
  simp only [xi_s, hg]
theorem ga_istore_n {k : Fin 4} {z : Int} (hM : Ms[y]? = some M) (hrow : xi_row M.2.2.2.2.1 pc = some (.istore_n k, nx, aux)) (hi : k.val < M.2.2.1) (hp : xi_put1 lv k.val (.int (Int32.ofInt z)) = lv2) (hk : fl_R Ms y fr lo nx lv2 r A Q) : fl_R Ms y fr lo pc lv (.int (Int32.ofInt z) :: r) A Q := by
  subst hp
  refine fl_s (pc' := nx) (lv' := xi_put1 lv k.val (.int (Int32.ofInt z))) (st' := r) (A' := A) hM hrow rfl ?_ rfl hk
  simp only [xi_s]
  rw [if_pos hi]
theorem ga_lstore_n {k : Fin 4} {z : Int} (hM : Ms[y]? = some M) (hrow : xi_row M.2.2.2.2.1 pc = some (.lstore_n k, nx, aux)) (hi : k.val + 1 < M.2.2.1) (hp : xi_put2 lv k.val (.long (Int64.ofInt z)) = lv2) (hk : fl_R Ms y fr lo nx lv2 r A Q) : fl_R Ms y fr lo pc lv (.long (Int64.ofInt z) :: r) A Q := by
  subst hp
  refine fl_s (pc' := nx) (lv' := xi_put2 lv k.val (.long (Int64.ofInt z))) (st' := r) (A' := A) hM hrow rfl ?_ rfl hk
  simp only [xi_s]
  rw [if_pos hi]
theorem ga_astore_n {k : Fin 4} {z : Nat} (hM : Ms[y]? = some M) (hrow : xi_row M.2.2.2.2.1 pc = some (.astore_n k, nx, aux)) (hi : k.val < M.2.2.1) (hp : xi_put1 lv k.val (.ref z) = lv2) (hk : fl_R Ms y fr lo nx lv2 r A Q) : fl_R Ms y fr lo pc lv (.ref z :: r) A Q := by
  subst hp
  refine fl_s (pc' := nx) (lv' := xi_put1 lv k.val (.ref z)) (st' := r) (A' := A) hM hrow rfl ?_ rfl hk
  simp only [xi_s]
  rw [if_pos hi]
theorem ga_aload {k : Nat} {v : Value} (hM : Ms[y]? = some M) (hrow : xi_row M.2.2.2.2.1 pc = some (.aload k, nx, aux)) (hg : xi_get lv k = some v) (hv : xi_isr v = true) (hk : fl_R Ms y fr lo nx lv (v :: r) A Q) : fl_R Ms y fr lo pc lv r A Q := by
  refine fl_s (pc' := nx) (lv' := lv) (st' := v :: r) (A' := A) hM hrow rfl ?_ rfl hk
  simp only [xi_s, hg]
  rw [if_pos hv]
theorem ga_iload {k : Nat} {z : Int} (hM : Ms[y]? = some M) (hrow : xi_row M.2.2.2.2.1 pc = some (.iload k, nx, aux)) (hg : xi_get lv k = some (.int (Int32.ofInt z))) (hk : fl_R Ms y fr lo nx lv (.int (Int32.ofInt z) :: r) A Q) : fl_R Ms y fr lo pc lv r A Q := by
  refine fl_s (pc' := nx) (lv' := lv) (st' := .int (Int32.ofInt z) :: r) (A' := A) hM hrow rfl ?_ rfl hk
  simp only [xi_s, hg]
theorem ga_lload {k : Nat} {z : Int} (hM : Ms[y]? = some M) (hrow : xi_row M.2.2.2.2.1 pc = some (.lload k, nx, aux)) (hg : xi_get lv k = some (.long (Int64.ofInt z))) (hk : fl_R Ms y fr lo nx lv (.long (Int64.ofInt z) :: r) A Q) : fl_R Ms y fr lo pc lv r A Q := by
  refine fl_s (pc' := nx) (lv' := lv) (st' := .long (Int64.ofInt z) :: r) (A' := A) hM hrow rfl ?_ rfl hk
  simp only [xi_s, hg]
theorem ga_istore {k : Nat} {z : Int} (hM : Ms[y]? = some M) (hrow : xi_row M.2.2.2.2.1 pc = some (.istore k, nx, aux)) (hi : k < M.2.2.1) (hp : xi_put1 lv k (.int (Int32.ofInt z)) = lv2) (hk : fl_R Ms y fr lo nx lv2 r A Q) : fl_R Ms y fr lo pc lv (.int (Int32.ofInt z) :: r) A Q := by
  subst hp
  refine fl_s (pc' := nx) (lv' := xi_put1 lv k (.int (Int32.ofInt z))) (st' := r) (A' := A) hM hrow rfl ?_ rfl hk
  simp only [xi_s]
  rw [if_pos hi]
theorem ga_lstore {k : Nat} {z : Int} (hM : Ms[y]? = some M) (hrow : xi_row M.2.2.2.2.1 pc = some (.lstore k, nx, aux)) (hi : k + 1 < M.2.2.1) (hp : xi_put2 lv k (.long (Int64.ofInt z)) = lv2) (hk : fl_R Ms y fr lo nx lv2 r A Q) : fl_R Ms y fr lo pc lv (.long (Int64.ofInt z) :: r) A Q := by
  subst hp
  refine fl_s (pc' := nx) (lv' := xi_put2 lv k (.long (Int64.ofInt z))) (st' := r) (A' := A) hM hrow rfl ?_ rfl hk
  simp only [xi_s]
  rw [if_pos hi]
theorem ga_astore {k : Nat} {z : Nat} (hM : Ms[y]? = some M) (hrow : xi_row M.2.2.2.2.1 pc = some (.astore k, nx, aux)) (hi : k < M.2.2.1) (hp : xi_put1 lv k (.ref z) = lv2) (hk : fl_R Ms y fr lo nx lv2 r A Q) : fl_R Ms y fr lo pc lv (.ref z :: r) A Q := by
  subst hp
  refine fl_s (pc' := nx) (lv' := xi_put1 lv k (.ref z)) (st' := r) (A' := A) hM hrow rfl ?_ rfl hk
  simp only [xi_s]
  rw [if_pos hi]
theorem ga_iinc {i : Nat} {n a : Int} (hM : Ms[y]? = some M) (hrow : xi_row M.2.2.2.2.1 pc = some (.iinc i n, nx, aux)) (hg : xi_get lv i = some (.int (Int32.ofInt a))) (hi : i < M.2.2.1) (hp : xi_put1 lv i (.int (Int32.ofInt (a + n))) = lv2) (hk : fl_R Ms y fr lo nx lv2 r A Q) : fl_R Ms y fr lo pc lv r A Q := by
  subst hp
  exact fl_iinc hM hrow hg hi hk
theorem ga_ldci {i v w : Nat} {z : Int} (hM : Ms[y]? = some M) (hrow : xi_row M.2.2.2.2.1 pc = some (.ldc i, nx, [0, v, w])) (hz : Int32.ofNat v = Int32.ofInt z) (hk : fl_R Ms y fr lo nx lv (.int (Int32.ofInt z) :: r) A Q) : fl_R Ms y fr lo pc lv r A Q := by
  rw [← hz] at hk
  exact fl_s hM hrow rfl rfl rfl hk
theorem ga_ldcwi {i v w : Nat} {z : Int} (hM : Ms[y]? = some M) (hrow : xi_row M.2.2.2.2.1 pc = some (.ldc_w i, nx, [0, v, w])) (hz : Int32.ofNat v = Int32.ofInt z) (hk : fl_R Ms y fr lo nx lv (.int (Int32.ofInt z) :: r) A Q) : fl_R Ms y fr lo pc lv r A Q := by
  rw [← hz] at hk
  exact fl_s hM hrow rfl rfl rfl hk
theorem ga_ldcs {i j : Nat} (hM : Ms[y]? = some M) (hrow : xi_row M.2.2.2.2.1 pc = some (.ldc i, nx, [1, j])) (hk : fl_R Ms y fr lo nx lv (.retAddr j :: r) A Q) : fl_R Ms y fr lo pc lv r A Q := fl_s hM hrow rfl rfl rfl hk
theorem ga_ldcl {i v w : Nat} {z : Int} (hM : Ms[y]? = some M) (hrow : xi_row M.2.2.2.2.1 pc = some (.ldc2_w i, nx, [v, w])) (hz : Int64.ofNat v = Int64.ofInt z) (hk : fl_R Ms y fr lo nx lv (.long (Int64.ofInt z) :: r) A Q) : fl_R Ms y fr lo pc lv r A Q := by
  rw [← hz] at hk
  exact fl_s hM hrow rfl rfl rfl hk
theorem ga_lconst {n : Nat} {hn : n < 2} {z : Int} (hM : Ms[y]? = some M) (hrow : xi_row M.2.2.2.2.1 pc = some (.lconst ⟨n, hn⟩, nx, aux)) (hz : Int64.ofNat n = Int64.ofInt z) (hk : fl_R Ms y fr lo nx lv (.long (Int64.ofInt z) :: r) A Q) : fl_R Ms y fr lo pc lv r A Q := by
  rw [← hz] at hk
  exact fl_s hM hrow rfl rfl rfl hk
theorem ga_geti {i ci k ix a : Nat} {ks : List Nat} {z : Int} (hM : Ms[y]? = some M) (hrow : xi_row M.2.2.2.2.1 pc = some (.getfield i, nx, [ci, k, ix])) (hT : T[a]? = some (2, ci, ks)) (hk : ks[k]? = some 0) (hz : F a k = z) (hn : fl_R Ms y fr lo nx lv (.int (Int32.ofInt z) :: r) (fl_H T G F ++ X) Q) : fl_R Ms y fr lo pc lv (.ref a :: r) (fl_H T G F ++ X) Q := by
  subst hz
  exact fl_get hM hrow hT hk hn
theorem ga_getl {i ci k ix a : Nat} {ks : List Nat} {z : Int} (hM : Ms[y]? = some M) (hrow : xi_row M.2.2.2.2.1 pc = some (.getfield i, nx, [ci, k, ix])) (hT : T[a]? = some (2, ci, ks)) (hk : ks[k]? = some 1) (hz : F a k = z) (hn : fl_R Ms y fr lo nx lv (.long (Int64.ofInt z) :: r) (fl_H T G F ++ X) Q) : fl_R Ms y fr lo pc lv (.ref a :: r) (fl_H T G F ++ X) Q := by
  subst hz
  exact fl_get hM hrow hT hk hn
theorem ga_getm {i ci k ix a b : Nat} {ks : List Nat} (hM : Ms[y]? = some M) (hrow : xi_row M.2.2.2.2.1 pc = some (.getfield i, nx, [ci, k, ix])) (hT : T[a]? = some (2, ci, ks)) (hk : ks[k]? = some 2) (hz : (F a k).toNat = b) (hn : fl_R Ms y fr lo nx lv (.ref b :: r) (fl_H T G F ++ X) Q) : fl_R Ms y fr lo pc lv (.ref a :: r) (fl_H T G F ++ X) Q := by
  subst hz
  exact fl_get hM hrow hT hk hn
theorem ga_getr {i ci k ix a b : Nat} {ks : List Nat} (hM : Ms[y]? = some M) (hrow : xi_row M.2.2.2.2.1 pc = some (.getfield i, nx, [ci, k, ix])) (hT : T[a]? = some (2, ci, ks)) (hk : ks[k]? = some (b + 3)) (hn : fl_R Ms y fr lo nx lv (.ref b :: r) (fl_H T G F ++ X) Q) : fl_R Ms y fr lo pc lv (.ref a :: r) (fl_H T G F ++ X) Q := fl_get hM hrow hT hk hn
theorem ga_01 {z : Int} (hz : z = 0 ∨ z = 1) : Int32.ofInt z &&& 1 = Int32.ofInt z := by
  rcases hz with rfl | rfl <;> decide
theorem ga_puti {i ci k ix a : Nat} {ks : List Nat} {z : Int} (hM : Ms[y]? = some M) (hrow : xi_row M.2.2.2.2.1 pc = some (.putfield i, nx, [ci, k, ix])) (hT : T[a]? = some (2, ci, ks)) (hk : ks[k]? = some 0) (hty : xi_ty ci k = .int) (hn : fl_R Ms y fr lo nx lv r (fl_H T G (fl_u F a k z) ++ X) Q) : fl_R Ms y fr lo pc lv (.int (Int32.ofInt z) :: .ref a :: r) (fl_H T G F ++ X) Q := by
  refine fl_put (kd := 0) hM hrow hT hk (by omega) ?_ ?_ hn
  · rw [hty]; rfl
  · rw [hty]; rfl
theorem ga_putz {i ci k ix a : Nat} {ks : List Nat} {z : Int} (hM : Ms[y]? = some M) (hrow : xi_row M.2.2.2.2.1 pc = some (.putfield i, nx, [ci, k, ix])) (hT : T[a]? = some (2, ci, ks)) (hk : ks[k]? = some 0) (hty : xi_ty ci k = .boolean) (hz : z = 0 ∨ z = 1) (hn : fl_R Ms y fr lo nx lv r (fl_H T G (fl_u F a k z) ++ X) Q) : fl_R Ms y fr lo pc lv (.int (Int32.ofInt z) :: .ref a :: r) (fl_H T G F ++ X) Q := by
  refine fl_put (kd := 0) hM hrow hT hk (by omega) ?_ ?_ hn
  · rw [hty]
    show Value.int (Int32.ofInt z &&& 1) = _
    rw [ga_01 hz]
    rfl
  · rw [hty]
    rcases hz with rfl | rfl <;> rfl
theorem ga_putl {i ci k ix a : Nat} {ks : List Nat} {z : Int} (hM : Ms[y]? = some M) (hrow : xi_row M.2.2.2.2.1 pc = some (.putfield i, nx, [ci, k, ix])) (hT : T[a]? = some (2, ci, ks)) (hk : ks[k]? = some 1) (hty : xi_ty ci k = .long) (hn : fl_R Ms y fr lo nx lv r (fl_H T G (fl_u F a k z) ++ X) Q) : fl_R Ms y fr lo pc lv (.long (Int64.ofInt z) :: .ref a :: r) (fl_H T G F ++ X) Q := by
  refine fl_put (kd := 1) hM hrow hT hk (by omega) ?_ ?_ hn
  · rw [hty]; rfl
  · rw [hty]; rfl
theorem ga_putr {i ci k ix a b : Nat} {ks : List Nat} {C : String} (hM : Ms[y]? = some M) (hrow : xi_row M.2.2.2.2.1 pc = some (.putfield i, nx, [ci, k, ix])) (hT : T[a]? = some (2, ci, ks)) (hk : ks[k]? = some 2) (hty : xi_ty ci k = .object C) (hn : fl_R Ms y fr lo nx lv r (fl_H T G (fl_u F a k (b : Int)) ++ X) Q) : fl_R Ms y fr lo pc lv (.ref b :: .ref a :: r) (fl_H T G F ++ X) Q := by
  refine fl_put (kd := 2) (z := (b : Int)) hM hrow hT hk (by omega) ?_ ?_ hn
  · rw [hty]; rfl
  · rw [hty]; rfl
theorem ga_iald {a n : Nat} {z w : Int} (hM : Ms[y]? = some M) (hrow : xi_row M.2.2.2.2.1 pc = some (.iaload, nx, aux)) (hT : T[a]? = some (0, 0, [n])) (h0 : 0 ≤ z) (h1 : z < (n : Int)) (h2 : n < 2147483648) (hw : F a z.toNat = w) (hk : fl_R Ms y fr lo nx lv (.int (Int32.ofInt w) :: r) (fl_H T G F ++ X) Q) : fl_R Ms y fr lo pc lv (.int (Int32.ofInt z) :: .ref a :: r) (fl_H T G F ++ X) Q := by
  subst hw
  exact fl_iald hM hrow hT h0 h1 h2 hk
theorem ga_cald {a n : Nat} {z w : Int} (hM : Ms[y]? = some M) (hrow : xi_row M.2.2.2.2.1 pc = some (.caload, nx, aux)) (hT : T[a]? = some (0, 2, [n])) (h0 : 0 ≤ z) (h1 : z < (n : Int)) (h2 : n < 2147483648) (hw : F a z.toNat = w) (hk : fl_R Ms y fr lo nx lv (.int (Int32.ofInt w) :: r) (fl_H T G F ++ X) Q) : fl_R Ms y fr lo pc lv (.int (Int32.ofInt z) :: .ref a :: r) (fl_H T G F ++ X) Q := by
  subst hw
  exact fl_cald hM hrow hT h0 h1 h2 hk
theorem ga_zald {a n : Nat} {z w : Int} (hM : Ms[y]? = some M) (hrow : xi_row M.2.2.2.2.1 pc = some (.baload, nx, aux)) (hT : T[a]? = some (0, 3, [n])) (h0 : 0 ≤ z) (h1 : z < (n : Int)) (h2 : n < 2147483648) (hw : F a z.toNat = w) (hk : fl_R Ms y fr lo nx lv (.int (Int32.ofInt w) :: r) (fl_H T G F ++ X) Q) : fl_R Ms y fr lo pc lv (.int (Int32.ofInt z) :: .ref a :: r) (fl_H T G F ++ X) Q := by
  subst hw
  exact fl_zald hM hrow hT h0 h1 h2 hk
theorem ga_lald {a n : Nat} {z w : Int} (hM : Ms[y]? = some M) (hrow : xi_row M.2.2.2.2.1 pc = some (.laload, nx, aux)) (hT : T[a]? = some (0, 1, [n])) (h0 : 0 ≤ z) (h1 : z < (n : Int)) (h2 : n < 2147483648) (hw : F a z.toNat = w) (hk : fl_R Ms y fr lo nx lv (.long (Int64.ofInt w) :: r) (fl_H T G F ++ X) Q) : fl_R Ms y fr lo pc lv (.int (Int32.ofInt z) :: .ref a :: r) (fl_H T G F ++ X) Q := by
  subst hw
  exact fl_lald hM hrow hT h0 h1 h2 hk
theorem ga_iret {z : Int} {ty : FieldType} (hM : Ms[y]? = some M) (hrow : xi_row M.2.2.2.2.1 pc = some (.ireturn, nx, aux)) (hty : M.2.2.2.1 = some ty) (hn : narrow ty (.int (Int32.ofInt z)) = .int (Int32.ofInt z)) (hk : Q (.returned (some (.int (Int32.ofInt z)))) A) : fl_R Ms y fr lo pc lv [.int (Int32.ofInt z)] A Q := by
  refine fl_e hM hrow ?_ hk
  simp only [xi_x, hty]
  rw [if_pos hn]
theorem ga_lret {z : Int} (hM : Ms[y]? = some M) (hrow : xi_row M.2.2.2.2.1 pc = some (.lreturn, nx, aux)) (hty : M.2.2.2.1 = some .long) (hk : Q (.returned (some (.long (Int64.ofInt z)))) A) : fl_R Ms y fr lo pc lv [.long (Int64.ofInt z)] A Q := by
  refine fl_e hM hrow ?_ hk
  simp only [xi_x]
  rw [if_pos hty]
theorem ga_ret (hM : Ms[y]? = some M) (hrow : xi_row M.2.2.2.2.1 pc = some (.return_, nx, aux)) (hty : M.2.2.2.1 = none) (hk : Q (.returned none) A) : fl_R Ms y fr lo pc lv [] A Q := by
  refine fl_e hM hrow ?_ hk
  simp only [xi_x]
  rw [if_pos hty]
theorem ga_nb {z : Int} (hz : z = 0 ∨ z = 1) : narrow .boolean (.int (Int32.ofInt z)) = .int (Int32.ofInt z) := by
  show Value.int (Int32.ofInt z &&& 1) = _
  rw [ga_01 hz]
theorem ga_vb {z : Int} (hz : z = 0 ∨ z = 1) : vp_nar .boolean (Int32.ofInt z) = Int32.ofInt z := ga_01 hz
theorem ga_c16 {z : Int} (h0 : 0 ≤ z) (h1 : z < 65536) : (Int32.ofInt z).toUInt32.toUInt16.toUInt32.toInt32 = Int32.ofInt z := by
  obtain ⟨n, rfl⟩ := Int.eq_ofNat_of_zero_le h0
  rw [Int32.ofInt_eq_ofNat, ← Int32.toBitVec_inj]
  apply BitVec.eq_of_toNat_eq
  simp
  omega
theorem ga_c17 {z : Int} (h0 : 0 ≤ z) (h1 : z < 65536) : ((Int32.ofInt z).toUInt32 % 65536).toInt32 = Int32.ofInt z := by
  obtain ⟨n, rfl⟩ := Int.eq_ofNat_of_zero_le h0
  rw [Int32.ofInt_eq_ofNat, ← Int32.toBitVec_inj]
  apply BitVec.eq_of_toNat_eq
  simp
  omega
theorem ga_nc {z : Int} (h0 : 0 ≤ z) (h1 : z < 65536) : narrow .char (.int (Int32.ofInt z)) = .int (Int32.ofInt z) := by
  show Value.int ((Int32.ofInt z).toUInt32.toUInt16.toUInt32.toInt32) = _
  rw [ga_c16 h0 h1]
theorem ga_vc {z : Int} (h0 : 0 ≤ z) (h1 : z < 65536) : vp_nar .char (Int32.ofInt z) = Int32.ofInt z := ga_c16 h0 h1
theorem ga_i2c {z : Int} (hM : Ms[y]? = some M) (hrow : xi_row M.2.2.2.2.1 pc = some (.i2c, nx, aux)) (h0 : 0 ≤ z) (h1 : z < 65536) (hk : fl_R Ms y fr lo nx lv (.int (Int32.ofInt z) :: r) A Q) : fl_R Ms y fr lo pc lv (.int (Int32.ofInt z) :: r) A Q := by
  rw [← ga_c17 h0 h1] at hk
  exact fl_s hM hrow rfl rfl rfl hk
theorem ga_i2l {z : Int} (hM : Ms[y]? = some M) (hrow : xi_row M.2.2.2.2.1 pc = some (.i2l, nx, aux)) (hz : fl_i z) (hk : fl_R Ms y fr lo nx lv (.long (Int64.ofInt z) :: r) A Q) : fl_R Ms y fr lo pc lv (.int (Int32.ofInt z) :: r) A Q := by
  rw [← fl_i2l hz] at hk
  exact fl_s hM hrow rfl rfl rfl hk
theorem ga_l2ie (z : Int) : (Int64.ofInt z).toInt32 = Int32.ofInt z := by
  rw [← Int32.toInt_inj, Int64.toInt_toInt32, Int64.toInt_ofInt, Int32.toInt_ofInt]
  have e1 : ∀ a : Int, (a.bmod (2 ^ 64)).bmod (2 ^ 32) = a.bmod (2 ^ 32) := fun a => Int.bmod_bmod_of_dvd (by decide)
  exact e1 z
theorem ga_l2i {z : Int} (hM : Ms[y]? = some M) (hrow : xi_row M.2.2.2.2.1 pc = some (.l2i, nx, aux)) (hk : fl_R Ms y fr lo nx lv (.int (Int32.ofInt z) :: r) A Q) : fl_R Ms y fr lo pc lv (.long (Int64.ofInt z) :: r) A Q := by
  rw [← ga_l2ie] at hk
  exact fl_s hM hrow rfl rfl rfl hk
theorem ga_ladd {a b : Int} (hM : Ms[y]? = some M) (hrow : xi_row M.2.2.2.2.1 pc = some (.ladd, nx, aux)) (hk : fl_R Ms y fr lo nx lv (.long (Int64.ofInt (a + b)) :: r) A Q) : fl_R Ms y fr lo pc lv (.long (Int64.ofInt b) :: .long (Int64.ofInt a) :: r) A Q := by
  rw [← fl_addL] at hk
  exact fl_s hM hrow rfl rfl rfl hk
theorem ga_lmul {a b : Int} (hM : Ms[y]? = some M) (hrow : xi_row M.2.2.2.2.1 pc = some (.lmul, nx, aux)) (hk : fl_R Ms y fr lo nx lv (.long (Int64.ofInt (a * b)) :: r) A Q) : fl_R Ms y fr lo pc lv (.long (Int64.ofInt b) :: .long (Int64.ofInt a) :: r) A Q := by
  rw [← fl_mulL] at hk
  exact fl_s hM hrow rfl rfl rfl hk
theorem ga_lany {I : Instr} {w : Int64} (hM : Ms[y]? = some M) (hrow : xi_row M.2.2.2.2.1 pc = some (I, nx, aux)) (hx : xi_x Ms M I aux fr lo st A = some (.inr (.inr none))) (hs : xi_s M.2.2.1 I nx aux lv st A = some (nx, lv, .long w :: r, A)) (hk : ∀ z, fl_j z → fl_R Ms y fr lo nx lv (.long (Int64.ofInt z) :: r) A Q) : fl_R Ms y fr lo pc lv st A Q := by
  obtain ⟨z, rfl, hz⟩ := fl_anyL w
  exact fl_s hM hrow hx hs rfl (hk z hz)
theorem ga_iany {I : Instr} {w : Int32} (hM : Ms[y]? = some M) (hrow : xi_row M.2.2.2.2.1 pc = some (I, nx, aux)) (hx : xi_x Ms M I aux fr lo st A = some (.inr (.inr none))) (hs : xi_s M.2.2.1 I nx aux lv st A = some (nx, lv, .int w :: r, A)) (hk : ∀ z, fl_i z → fl_R Ms y fr lo nx lv (.int (Int32.ofInt z) :: r) A Q) : fl_R Ms y fr lo pc lv st A Q := by
  obtain ⟨z, rfl, hz⟩ := fl_any w
  exact fl_s hM hrow hx hs rfl (hk z hz)
theorem ga_iand {x : Int32} {m : Nat} (hM : Ms[y]? = some M) (hrow : xi_row M.2.2.2.2.1 pc = some (.iand, nx, aux)) (hm : m < 2147483648) (hk : ∀ z : Int, 0 ≤ z → z ≤ (m : Int) → fl_R Ms y fr lo nx lv (.int (Int32.ofInt z) :: r) A Q) : fl_R Ms y fr lo pc lv (.int (Int32.ofInt (m : Int)) :: .int x :: r) A Q := by
  obtain ⟨z, hz, h0, h1⟩ := fl_and (x := x) hm
  refine fl_s (pc' := nx) (lv' := lv) (st' := .int (x &&& Int32.ofInt (m : Int)) :: r) (A' := A) hM hrow rfl rfl rfl ?_
  rw [hz]
  exact hk z h0 h1
theorem ga_ne0 {b : Int} (hb : 0 < b) (hb2 : b < 2147483648) : ¬ Int32.ofInt b = 0 := fun h => by
  have := (fl_eq (a := b) (b := 0) ⟨by omega, by omega⟩ ⟨by omega, by omega⟩).mp h
  omega
theorem ga_idiv {a b : Int} (hM : Ms[y]? = some M) (hrow : xi_row M.2.2.2.2.1 pc = some (.idiv, nx, aux)) (ha : 0 ≤ a) (hb : 0 < b) (ha2 : a < 2147483648) (hb2 : b < 2147483648) (hk : fl_R Ms y fr lo nx lv (.int (Int32.ofInt (a / b)) :: r) A Q) : fl_R Ms y fr lo pc lv (.int (Int32.ofInt b) :: .int (Int32.ofInt a) :: r) A Q := by
  rw [← fl_div ha hb ha2 hb2] at hk
  refine fl_s (pc' := nx) (lv' := lv) (st' := .int (Int32.ofInt a / Int32.ofInt b) :: r) (A' := A) hM hrow rfl ?_ rfl hk
  simp only [xi_s]
  rw [if_neg (ga_ne0 hb hb2)]
theorem ga_irem {a b : Int} (hM : Ms[y]? = some M) (hrow : xi_row M.2.2.2.2.1 pc = some (.irem, nx, aux)) (ha : 0 ≤ a) (hb : 0 < b) (ha2 : a < 2147483648) (hb2 : b < 2147483648) (hk : fl_R Ms y fr lo nx lv (.int (Int32.ofInt (a % b)) :: r) A Q) : fl_R Ms y fr lo pc lv (.int (Int32.ofInt b) :: .int (Int32.ofInt a) :: r) A Q := by
  rw [← fl_rem ha hb ha2 hb2] at hk
  refine fl_s (pc' := nx) (lv' := lv) (st' := .int (Int32.ofInt a - Int32.ofInt a / Int32.ofInt b * Int32.ofInt b) :: r) (A' := A) hM hrow rfl ?_ rfl hk
  simp only [xi_s]
  rw [if_neg (ga_ne0 hb hb2)]
theorem ga_dup {v : Value} (hM : Ms[y]? = some M) (hrow : xi_row M.2.2.2.2.1 pc = some (.dup, nx, aux)) (hc : v.category = 1) (hk : fl_R Ms y fr lo nx lv (v :: v :: r) A Q) : fl_R Ms y fr lo pc lv (v :: r) A Q := by
  refine fl_s (pc' := nx) (lv' := lv) (st' := v :: v :: r) (A' := A) hM hrow rfl ?_ rfl hk
  simp only [xi_s]
  rw [if_pos hc]
theorem ga_pop {v : Value} (hM : Ms[y]? = some M) (hrow : xi_row M.2.2.2.2.1 pc = some (.pop, nx, aux)) (hc : v.category = 1) (hk : fl_R Ms y fr lo nx lv r A Q) : fl_R Ms y fr lo pc lv (v :: r) A Q := by
  refine fl_s (pc' := nx) (lv' := lv) (st' := r) (A' := A) hM hrow rfl ?_ rfl hk
  simp only [xi_s]
  rw [if_pos hc]
theorem ga_pop2 {v : Value} (hM : Ms[y]? = some M) (hrow : xi_row M.2.2.2.2.1 pc = some (.pop2, nx, aux)) (hc : v.category = 2) (hk : fl_R Ms y fr lo nx lv r A Q) : fl_R Ms y fr lo pc lv (v :: r) A Q := by
  refine fl_s (pc' := nx) (lv' := lv) (st' := r) (A' := A) hM hrow rfl ?_ rfl hk
  simp only [xi_s]
  rw [if_pos hc]
theorem ga_dup2 {v w : Value} (hM : Ms[y]? = some M) (hrow : xi_row M.2.2.2.2.1 pc = some (.dup2, nx, aux)) (hc : v.category = 1 ∧ w.category = 1) (hk : fl_R Ms y fr lo nx lv (v :: w :: v :: w :: r) A Q) : fl_R Ms y fr lo pc lv (v :: w :: r) A Q := by
  refine fl_s (pc' := nx) (lv' := lv) (st' := v :: w :: v :: w :: r) (A' := A) hM hrow rfl ?_ rfl hk
  simp only [xi_s]
  rw [if_pos hc]
theorem ga_ltL {a b : Int} (ha : fl_j a) (hb : fl_j b) : Int64.ofInt a < Int64.ofInt b ↔ a < b := by
  rw [Int64.lt_iff_toInt_lt, fl_toIntL ha, fl_toIntL hb]
theorem ga_eqL {a b : Int} (ha : fl_j a) (hb : fl_j b) : Int64.ofInt a = Int64.ofInt b ↔ a = b := by
  rw [← Int64.toInt_inj, fl_toIntL ha, fl_toIntL hb]
theorem ga_lcmp {a b : Int} (hM : Ms[y]? = some M) (hrow : xi_row M.2.2.2.2.1 pc = some (.lcmp, nx, aux)) (ha : fl_j a) (hb : fl_j b) (h1 : a < b → fl_R Ms y fr lo nx lv (.int (Int32.ofInt (-1)) :: r) A Q) (h2 : a = b → fl_R Ms y fr lo nx lv (.int (Int32.ofInt 0) :: r) A Q) (h3 : b < a → fl_R Ms y fr lo nx lv (.int (Int32.ofInt 1) :: r) A Q) : fl_R Ms y fr lo pc lv (.long (Int64.ofInt b) :: .long (Int64.ofInt a) :: r) A Q := by
  by_cases g1 : b < a
  · refine fl_s (pc' := nx) (lv' := lv) (st' := .int (lg_cmp (Int64.ofInt a) (Int64.ofInt b)) :: r) (A' := A) hM hrow rfl rfl rfl ?_
    have e : lg_cmp (Int64.ofInt a) (Int64.ofInt b) = Int32.ofInt 1 := by
      unfold lg_cmp
      rw [if_pos ((ga_ltL hb ha).mpr g1)]
      rfl
    rw [e]
    exact h3 g1
  · by_cases g2 : a = b
    · refine fl_s (pc' := nx) (lv' := lv) (st' := .int (lg_cmp (Int64.ofInt a) (Int64.ofInt b)) :: r) (A' := A) hM hrow rfl rfl rfl ?_
      have e : lg_cmp (Int64.ofInt a) (Int64.ofInt b) = Int32.ofInt 0 := by
        unfold lg_cmp
        rw [if_neg (fun q => g1 ((ga_ltL hb ha).mp q)), if_pos ((ga_eqL ha hb).mpr g2)]
        rfl
      rw [e]
      exact h2 g2
    · refine fl_s (pc' := nx) (lv' := lv) (st' := .int (lg_cmp (Int64.ofInt a) (Int64.ofInt b)) :: r) (A' := A) hM hrow rfl rfl rfl ?_
      have e : lg_cmp (Int64.ofInt a) (Int64.ofInt b) = Int32.ofInt (-1) := by
        unfold lg_cmp
        rw [if_neg (fun q => g1 ((ga_ltL hb ha).mp q)), if_neg (fun q => g2 ((ga_eqL ha hb).mp q))]
        rfl
      rw [e]
      exact h1 (by omega)
theorem ga_lcmpq {a b : Int} {nx2 tgt : Nat} {off : Int} (hM : Ms[y]? = some M) (hrow : xi_row M.2.2.2.2.1 pc = some (.lcmp, nx, aux)) (hrow2 : xi_row M.2.2.2.2.1 nx = some (.ifCond .eq off, nx2, [tgt])) (ha : fl_j a) (hb : fl_j b) (h1 : a = b → fl_R Ms y fr lo tgt lv r A Q) (h2 : ¬ a = b → fl_R Ms y fr lo nx2 lv r A Q) : fl_R Ms y fr lo pc lv (.long (Int64.ofInt b) :: .long (Int64.ofInt a) :: r) A Q := by
  refine ga_lcmp hM hrow ha hb (fun h => ?_) (fun h => ?_) (fun h => ?_)
  · exact fl_if_eq hM hrow2 ⟨by omega, by omega⟩ (fun q => absurd q (by omega)) (fun _ => h2 (by omega))
  · exact fl_if_eq hM hrow2 ⟨by omega, by omega⟩ (fun _ => h1 h) (fun q => absurd rfl q)
  · exact fl_if_eq hM hrow2 ⟨by omega, by omega⟩ (fun q => absurd q (by omega)) (fun _ => h2 (by omega))
theorem ga_lcmpn {a b : Int} {nx2 tgt : Nat} {off : Int} (hM : Ms[y]? = some M) (hrow : xi_row M.2.2.2.2.1 pc = some (.lcmp, nx, aux)) (hrow2 : xi_row M.2.2.2.2.1 nx = some (.ifCond .ne off, nx2, [tgt])) (ha : fl_j a) (hb : fl_j b) (h1 : ¬ a = b → fl_R Ms y fr lo tgt lv r A Q) (h2 : a = b → fl_R Ms y fr lo nx2 lv r A Q) : fl_R Ms y fr lo pc lv (.long (Int64.ofInt b) :: .long (Int64.ofInt a) :: r) A Q := by
  refine ga_lcmp hM hrow ha hb (fun h => ?_) (fun h => ?_) (fun h => ?_)
  · exact fl_if_ne hM hrow2 ⟨by omega, by omega⟩ (fun _ => h1 (by omega)) (fun q => absurd (by omega) q)
  · exact fl_if_ne hM hrow2 ⟨by omega, by omega⟩ (fun q => absurd rfl q) (fun _ => h2 h)
  · exact fl_if_ne hM hrow2 ⟨by omega, by omega⟩ (fun _ => h1 (by omega)) (fun q => absurd (by omega) q)
theorem ga_slen {i j w : Nat} {t : List Int} (hM : Ms[y]? = some M) (hrow : xi_row M.2.2.2.2.1 pc = some (.invokevirtual i, nx, [w])) (ht : xi_tx[j]? = some t) (hc : (6 ≤ fr ∧ 100 ≤ lo ∧ xi_wt r ≤ 6) ∧ 0 < A.length) (hk : fl_R Ms y fr lo nx lv (.int (Int32.ofInt (t.length : Int)) :: r) A Q) : fl_R Ms y fr lo pc lv (.retAddr j :: r) A Q := by
  obtain ⟨n, o, A2, h, hq⟩ := hk
  refine ⟨n + 1, o, A2, ?_, hq⟩
  have hx : xi_x Ms M (.invokevirtual i) [w] fr lo (.retAddr j :: r) A = some (.inr (.inr (some (.int (Int32.ofInt (t.length : Int)) :: r)))) := by
    simp only [xi_x, ht]
    rw [if_pos hc]
  rw [xi_go_succ]
  unfold xi_body
  rw [hM]
  simp only
  rw [hrow]
  simp only
  rw [hx]
  exact h
theorem ga_schr {i j w w2 : Nat} {t : List Int} {k z : Int} (hM : Ms[y]? = some M) (hrow : xi_row M.2.2.2.2.1 pc = some (.invokevirtual i, nx, [w, w2])) (ht : xi_tx[j]? = some t) (h0 : 0 ≤ k) (h1 : k < 2147483648) (hz : t[k.toNat]? = some z) (hc : (6 ≤ fr ∧ 100 ≤ lo ∧ xi_wt r ≤ 6) ∧ 0 < A.length) (hk : fl_R Ms y fr lo nx lv (.int (Int32.ofInt z) :: r) A Q) : fl_R Ms y fr lo pc lv (.int (Int32.ofInt k) :: .retAddr j :: r) A Q := by
  obtain ⟨n, o, A2, h, hq⟩ := hk
  refine ⟨n + 1, o, A2, ?_, hq⟩
  have hk0 : (0 : Int32) ≤ Int32.ofInt k := (fl_le (a := 0) (b := k) ⟨by omega, by omega⟩ ⟨by omega, by omega⟩).mpr h0
  have hx : xi_x Ms M (.invokevirtual i) [w, w2] fr lo (.int (Int32.ofInt k) :: .retAddr j :: r) A = some (.inr (.inr (some (.int (Int32.ofInt z) :: r)))) := by
    simp only [xi_x, ht]
    rw [fl_nat ⟨by omega, by omega⟩, hz]
    simp only
    rw [if_pos ⟨hc.1, hc.2, hk0⟩]
  rw [xi_go_succ]
  unfold xi_body
  rw [hM]
  simp only
  rw [hrow]
  simp only
  rw [hx]
  exact h
end GA
/-! LOCALS may be fewer, and in another order -/
def lv_sb (lv' lv : xi_L) : Prop := (lv.map (·.1)).Nodup ∧ ∀ q ∈ lv', q ∈ lv
theorem fl_get_mem {lv : xi_L} (hn : (lv.map (·.1)).Nodup) : ∀ {i : Nat} {v : Value}, (i, v) ∈ lv → xi_get lv i = some v := by
  induction lv with
  | nil => intro i v h; cases h
  | cons q lv ih =>
    intro i v h
    simp only [List.map_cons, List.nodup_cons] at hn
    rcases List.mem_cons.mp h with h | h
    · subst h
      simp [xi_get]
    · have hne : q.1 ≠ i := fun e => hn.1 (List.mem_map.mpr ⟨(i, v), h, e.symm⟩)
      have h1 := ih hn.2 h
      simp only [xi_get] at h1 ⊢
      rw [List.find?_cons_of_neg (by simpa using hne)]
      exact h1
theorem lv_sb_get {lv' lv : xi_L} (h : lv_sb lv' lv) {i : Nat} {v : Value} (hg : xi_get lv' i = some v) : xi_get lv i = some v := fl_get_mem h.1 (h.2 _ (xi_get_mem hg))
theorem lv_sb_put1 {lv' lv : xi_L} (h : lv_sb lv' lv) (i : Nat) (v : Value) : lv_sb (xi_put1 lv' i v) (xi_put1 lv i v) := by
  refine ⟨?_, fun q hq => ?_⟩
  · simp only [xi_put1, List.map_cons, List.nodup_cons]
    refine ⟨fun hm => ?_, (h.1.sublist (List.Sublist.map _ List.filter_sublist))⟩
    obtain ⟨q, hq, e⟩ := List.mem_map.mp hm
    have h2 := (List.mem_filter.mp hq).2
    simp [e] at h2
  · simp only [xi_put1, List.mem_cons, List.mem_filter] at hq ⊢
    rcases hq with hq | hq
    · exact Or.inl hq
    · exact Or.inr ⟨h.2 _ hq.1, hq.2⟩
theorem lv_sb_put2 {lv' lv : xi_L} (h : lv_sb lv' lv) (i : Nat) (v : Value) : lv_sb (xi_put2 lv' i v) (xi_put2 lv i v) := by
  refine ⟨?_, fun q hq => ?_⟩
  · simp only [xi_put2, List.map_cons, List.nodup_cons]
    refine ⟨fun hm => ?_, (h.1.sublist (List.Sublist.map _ List.filter_sublist))⟩
    obtain ⟨q, hq, e⟩ := List.mem_map.mp hm
    have h2 := (List.mem_filter.mp hq).2
    simp [e] at h2
  · simp only [xi_put2, List.mem_cons, List.mem_filter] at hq ⊢
    rcases hq with hq | hq
    · exact Or.inl hq
    · exact Or.inr ⟨h.2 _ hq.1, hq.2⟩
theorem fl_s_sub {nL : Nat} {I : Instr} {nx pc' : Nat} {aux : List Nat} {lv' lv l' : xi_L} {st st' : List Value} {A A' : xi_H} (hS : lv_sb lv' lv) (h : xi_s nL I nx aux lv' st A = some (pc', l', st', A')) : ∃ l, xi_s nL I nx aux lv st A = some (pc', l, st', A') ∧ lv_sb l' l := by
  unfold xi_s at h
  split at h
  all_goals try (simp only [xi_s])
  all_goals repeat' split at h
  all_goals first
    | (cases h; done)
    | (simp only [Option.some.injEq, Prod.mk.injEq] at h
       obtain ⟨h1, h2, h3, h4⟩ := h
       subst h1 h2 h3 h4
       first
         | exact ⟨_, rfl, hS⟩
         | (rename_i hc; refine ⟨_, ?_, hS⟩; rw [if_pos hc]; done)
         | (rename_i hc; refine ⟨_, ?_, hS⟩; rw [if_neg hc]; done)
         | (rename_i hd hc; refine ⟨_, ?_, hS⟩; rw [if_neg hd, if_pos hc]; done)
         | (rename_i hg; refine ⟨lv, ?_, hS⟩; rw [lv_sb_get hS hg]; done)
         | (rename_i hg hv; refine ⟨lv, ?_, hS⟩; rw [lv_sb_get hS hg]; simp only; rw [if_pos hv]; done)
         | (rename_i hi; refine ⟨_, ?_, lv_sb_put1 hS _ _⟩; rw [if_pos hi]; done)
         | (rename_i hi; refine ⟨_, ?_, lv_sb_put2 hS _ _⟩; rw [if_pos hi]; done)
         | (rename_i hg hi; refine ⟨_, ?_, lv_sb_put1 hS _ _⟩; rw [lv_sb_get hS hg]; simp only; rw [if_pos hi]; done)
         | (refine ⟨_, ?_, hS⟩; simp_all; done))
theorem fl_go_sub (Ms : List xi_M) : ∀ (n y fr lo pc : Nat) (lv' lv : xi_L) (st : List Value) (A : xi_H) (q : Outcome × xi_H), lv_sb lv' lv → xi_go Ms n y fr lo pc lv' st A = some q → xi_go Ms n y fr lo pc lv st A = some q := by
  intro n
  induction n with
  | zero => intro y fr lo pc lv' lv st A q hS h; cases h
  | succ n ih =>
    intro y fr lo pc lv' lv st A q hS h
    rw [xi_go_succ] at h ⊢
    unfold xi_body at h ⊢
    split at h
    · cases h
    · rename_i M hM
      try rw [hM]
      try simp only
      split at h
      · cases h
      · rename_i I nx aux hrow
        try rw [hrow]
        try simp only
        split at h
        · cases h
        · rename_i hx
          try rw [hx]
          try simp only
          exact h
        · rename_i cM vs rest nY virt hx
          try rw [hx]
          try simp only
          split at h
          · cases h
          · rename_i hr
            try rw [hr]
            try simp only
            exact ih _ _ _ _ _ _ _ _ _ hS h
          · rename_i hr
            try rw [hr]
            try simp only
            split at h
            · rename_i hv
              try rw [if_pos hv]
              split at h
              · rename_i hh
                try rw [hh]
                try simp only
                exact h
              · rename_i hh
                try rw [hh]
                try simp only
                split at h
                · rename_i hk
                  try rw [hk]
                  try simp only
                  split at h
                  · rename_i hc
                    try rw [if_pos hc]
                    exact ih _ _ _ _ _ _ _ _ _ hS h
                  · rename_i hc
                    try rw [if_neg hc]
                    split at h
                    · rename_i hf
                      try rw [hf]
                      try simp only
                      split at h
                      · rename_i hd
                        try rw [if_pos hd]
                        exact ih _ _ _ _ _ _ _ _ _ hS h
                      · cases h
                    · cases h
                · cases h
            · cases h
        · rename_i hx
          try rw [hx]
          try simp only
          exact ih _ _ _ _ _ _ _ _ _ hS h
        · rename_i hx
          try rw [hx]
          try simp only
          split at h
          · cases h
          · rename_i hs
            obtain ⟨l, h1, h2⟩ := fl_s_sub hS hs
            try rw [h1]
            try simp only
            exact ih _ _ _ _ _ _ _ _ _ h2 h
def fl_nd : List Nat → Bool
  | [] => true
  | a :: l => l.all (fun b => !(Nat.beq a b)) && fl_nd l
theorem fl_nd_ok : ∀ l : List Nat, fl_nd l = true → l.Nodup := by
  intro l
  induction l with
  | nil => intro _; exact List.nodup_nil
  | cons a l ih =>
    intro h
    simp only [fl_nd, Bool.and_eq_true, List.all_eq_true, Bool.not_eq_true'] at h
    refine List.nodup_cons.mpr ⟨fun hm => ?_, ih h.2⟩
    have h1 := h.1 a hm
    rw [Nat.beq_refl] at h1
    cases h1
theorem fl_R_sub {Ms : List xi_M} {y fr lo pc : Nat} {lv' lv : xi_L} {st : List Value} {A : xi_H} {Q : Outcome → xi_H → Prop} (hn : fl_nd (lv.map (·.1)) = true) (he : lv'.map (fun q => xi_get lv q.1) = lv'.map (fun q => some q.2)) (h : fl_R Ms y fr lo pc lv' st A Q) : fl_R Ms y fr lo pc lv st A Q := by
  obtain ⟨n, o, A', h1, h2⟩ := h
  refine ⟨n, o, A', fl_go_sub Ms n y fr lo pc lv' lv st A (o, A') ⟨fl_nd_ok _ hn, fun q hq => ?_⟩ h1, h2⟩
  have h3 : xi_get lv q.1 = some q.2 := List.map_inj_left.mp he q hq
  exact xi_get_mem h3

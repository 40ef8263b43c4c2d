/- CheapPlannerModel.scan -/
abbrev pq_49 (G : Nat → Nat → Option Nat) (F : fl_N) (X : xi_H)  : Outcome → xi_H → Prop := gqv (fun A => ∃ F' : fl_N, fl_H sh_T G F' ++ X = A ∧ gi F' ∧ fs [(344, 344, 4, 5), (347, 348, 0, 100000)] F F' ∧ (∃ l, l = tkz (F 345) (F 344 1).toNat 0 (-1) ∧ trf F' (F 344 1) l ∧ l.length ≤ 600) ∧ (F' 344 5 = 0)) gqn
theorem mc_49 {G : Nat → Nat → Option Nat} (hG : gg G) (F : fl_N) (X : xi_H) (hgi : gi F)  : fl_M xi_ms 49 0 0 [.ref 344] (fl_H sh_T G F ++ X) (pq_49 G F X) := by
  intro fr lo hfr hlo
  show fl_R xi_ms 49 fr lo 0 [(0, .ref 344)] [] _ _
  refine ga_aload_n (v := .ref 344) hm_49 rfl rfl rfl ?_
  refine fl_iconst hm_49 rfl ?_
  refine ga_puti (z := 0) hm_49 rfl sc_344 rfl rfl ?_
  refine ga_aload_n (v := .ref 344) hm_49 rfl rfl rfl ?_
  refine fl_iconst hm_49 rfl ?_
  refine ga_puti (z := 0) hm_49 rfl sc_344 rfl rfl ?_
  refine fl_iconst hm_49 rfl ?_
  refine ga_istore_n (lv2 := [(1, .int (Int32.ofInt 0)), (0, .ref 344)]) hm_49 rfl (Nat.le_of_ble_eq_true rfl) rfl ?_
  obtain ⟨F1_, q2_⟩ : ∃ F9_, F9_ = (fl_u (fl_u F 344 4 0) 344 5 0) := ⟨_, rfl⟩
  rw [← q2_]
  have g3_ : gi F1_ := by rw [q2_]; exact gi_u (gi_u (hgi) rfl (by omega) (by omega)) rfl (by omega) (by omega)
  have g4_ : fs [(344, 344, 4, 5), (347, 348, 0, 100000)] F F1_ := by rw [q2_]; exact fs_u (fs_u (fs_refl) rfl) rfl
  have L6_ : ∀ (n5_ : Nat) (k : Int) (l : List (Nat × Nat)) (F1 : fl_N), (F 344 1 - k : Int).toNat = n5_ → (gi F1) → (fs [(344, 344, 4, 4), (347, 348, 0, 100000)] F1_ F1) → (0 ≤ k ∧ k ≤ F 344 1) → (trl F1 l ∧ F1 344 4 = (l.length : Int)) → ((l.length : Int) ≤ k) → (tkz (F 345) (F 344 1).toNat 0 (-1) = l ++ tkz (F 345) (F 344 1 - k).toNat k.toNat (-1)) → fl_R xi_ms 49 fr lo 12 [(1, .int (Int32.ofInt k)), (0, .ref 344)] [] (fl_H sh_T G F1 ++ X) (pq_49 G F X) := by
    intro n5_
    induction n5_ using Nat.strongRecOn with
    | ind n5_ ih7_ =>
    intro k l F1 hn8_ hg_F1 hf_F1 hi hcnt hle htk
    have g9_ : fs [(344, 344, 4, 5), (347, 348, 0, 100000)] F F1 := fs_tr g4_ hf_F1 rfl
    have hcn := hcnt.2
    refine ga_iload_n (z := k) hm_49 rfl rfl ?_
    refine ga_aload_n (v := .ref 344) hm_49 rfl rfl rfl ?_
    have e10_ : F1_ 344 1 = F 344 1 := by rw [q2_]; exact (fl_u_ne (by omega)).trans (fl_u_ne (by omega))
    have e11_ : F1 344 1 = F 344 1 := (hf_F1 344 1 rfl).trans (e10_)
    have b12_ : 0 ≤ F 344 1 ∧ F 344 1 ≤ 600 := gi_g hgi rfl
    refine ga_geti (z := F 344 1) hm_49 rfl sc_344 rfl (e11_) ?_
    refine fl_icmp_ge (a := k) (b := F 344 1) hm_49 rfl ⟨by omega, by omega⟩ ⟨by omega, by omega⟩ (fun h13_ => ?_) (fun h14_ => ?_)
    ·
      refine ga_aload_n (v := .ref 344) hm_49 rfl rfl rfl ?_
      refine ga_getr (b := 347) hm_49 rfl sc_344 rfl ?_
      refine ga_aload_n (v := .ref 344) hm_49 rfl rfl rfl ?_
      have b15_ : 0 ≤ F1 344 4 ∧ F1 344 4 ≤ 600 := gi_g hg_F1 rfl
      refine ga_geti (z := F1 344 4) hm_49 rfl sc_344 rfl (rfl) ?_
      refine ga_aload_n (v := .ref 344) hm_49 rfl rfl rfl ?_
      refine ga_geti (z := F 344 1) hm_49 rfl sc_344 rfl (e11_) ?_
      refine fl_iast (z := F1 344 4) (v := F 344 1) hm_49 rfl sc_347 (by omega) (by omega) (by omega) ?_
      refine ga_aload_n (v := .ref 344) hm_49 rfl rfl rfl ?_
      refine ga_getr (b := 348) hm_49 rfl sc_344 rfl ?_
      refine ga_aload_n (v := .ref 344) hm_49 rfl rfl rfl ?_
      refine ga_geti (z := F1 344 4) hm_49 rfl sc_344 rfl (fl_u_ne (by omega)) ?_
      refine ga_aload_n (v := .ref 344) hm_49 rfl rfl rfl ?_
      refine ga_geti (z := F 344 1) hm_49 rfl sc_344 rfl ((fl_u_ne (by omega)).trans (e11_)) ?_
      refine fl_iast (z := F1 344 4) (v := F 344 1) hm_49 rfl sc_348 (by omega) (by omega) (by omega) ?_
      obtain ⟨F16_, q17_⟩ : ∃ F9_, F9_ = (fl_u (fl_u F1 347 (F1 344 4).toNat (F 344 1)) 348 (F1 344 4).toNat (F 344 1)) := ⟨_, rfl⟩
      rw [← q17_]
      have g18_ : gi F16_ := by rw [q17_]; exact gi_u (gi_u (hg_F1) rfl (by omega) (by omega)) rfl (by omega) (by omega)
      have g19_ : fs [(344, 344, 4, 5), (347, 348, 0, 100000)] F F16_ := by rw [q17_]; exact fs_u (fs_u (g9_) (fs_z (fs_y (by omega)))) (fs_z (fs_y (by omega)))
      refine gr_v hm_49 rfl rfl ?_
      have e20_ : F1_ 344 5 = 0 := by rw [q2_]; exact fl_u_eq
      have e21_ : F1 344 5 = 0 := (hf_F1 344 5 rfl).trans (e20_)
      have e22_ : F16_ 344 5 = 0 := by rw [q17_]; exact (fl_u_ne (by omega)).trans ((fl_u_ne (by omega)).trans (e21_))
      exact ⟨F16_, rfl, g18_, g19_, (⟨_, rfl, by rw [q17_, htk, tz7 (by omega) (by omega), List.append_nil]; exact trf_end hcnt, by rw [htk, tz7 (by omega) (by omega), List.append_nil]; omega⟩), (by omega)⟩
    refine ga_aload_n (v := .ref 344) hm_49 rfl rfl rfl ?_
    refine ga_getr (b := 345) hm_49 rfl sc_344 rfl ?_
    refine ga_iload_n (z := k) hm_49 rfl rfl ?_
    have e23_ : F1_ 345 k.toNat = F 345 k.toNat := by rw [q2_]; exact (fl_u_ne (by omega)).trans (fl_u_ne (by omega))
    have e24_ : F1 345 k.toNat = F 345 k.toNat := (hf_F1 345 k.toNat (fs_n (by omega) (fs_n (by omega) rfl))).trans (e23_)
    have b25_ : 0 ≤ F 345 k.toNat ∧ F 345 k.toNat ≤ 126 := gi_g hgi rfl
    refine ga_iald (z := k) (w := F 345 k.toNat) hm_49 rfl sc_345 (by omega) (by omega) (by omega) (e24_) ?_
    refine fl_bipush hm_49 rfl rfl ?_
    refine fx_icmp_ne (a := F 345 k.toNat) (b := 32) hm_49 rfl ⟨by omega, by omega⟩ ⟨by omega, by omega⟩ (fun h26_ => ?_) (fun h27_ => ?_)
    ·
      refine ga_aload_n (v := .ref 344) hm_49 rfl rfl rfl ?_
      refine ga_getr (b := 347) hm_49 rfl sc_344 rfl ?_
      refine ga_aload_n (v := .ref 344) hm_49 rfl rfl rfl ?_
      have b28_ : 0 ≤ F1 344 4 ∧ F1 344 4 ≤ 600 := gi_g hg_F1 rfl
      refine ga_geti (z := F1 344 4) hm_49 rfl sc_344 rfl (rfl) ?_
      refine ga_iload_n (z := k) hm_49 rfl rfl ?_
      refine fl_iast (z := F1 344 4) (v := k) hm_49 rfl sc_347 (by omega) (by omega) (by omega) ?_
      refine ga_aload_n (v := .ref 344) hm_49 rfl rfl rfl ?_
      refine ga_getr (b := 345) hm_49 rfl sc_344 rfl ?_
      refine ga_iload_n (z := k) hm_49 rfl rfl ?_
      refine ga_iald (z := k) (w := F 345 k.toNat) hm_49 rfl sc_345 (by omega) (by omega) (by omega) ((fl_u_ne (by omega)).trans (e24_)) ?_
      refine fl_bipush hm_49 rfl rfl ?_
      refine fl_icmp_eq (a := F 345 k.toNat) (b := 40) hm_49 rfl ⟨by omega, by omega⟩ ⟨by omega, by omega⟩ (fun h29_ => ?_) (fun h30_ => ?_)
      ·
        refine fl_iconst hm_49 rfl ?_
        refine fl_goto hm_49 rfl ?_
        refine ga_istore_n (lv2 := [(2, .int (Int32.ofInt 1)), (1, .int (Int32.ofInt k)), (0, .ref 344)]) hm_49 rfl (Nat.le_of_ble_eq_true rfl) rfl ?_
        refine ga_inc (a := k) (c := k + 1) (lv2 := [(1, .int (Int32.ofInt (k + 1))), (2, .int (Int32.ofInt 1)), (0, .ref 344)]) hm_49 rfl rfl (Nat.le_of_ble_eq_true rfl) rfl rfl ?_
        refine ga_iload_n (z := 1) hm_49 rfl rfl ?_
        refine fl_if_ne hm_49 rfl ⟨by omega, by omega⟩ (fun _ => ?_) (fun h => absurd (by omega) h)
        refine ga_aload_n (v := .ref 344) hm_49 rfl rfl rfl ?_
        refine ga_getr (b := 348) hm_49 rfl sc_344 rfl ?_
        refine ga_aload_n (v := .ref 344) hm_49 rfl rfl rfl ?_
        refine ga_geti (z := F1 344 4) hm_49 rfl sc_344 rfl (fl_u_ne (by omega)) ?_
        refine ga_iload_n (z := k + 1) hm_49 rfl rfl ?_
        refine fl_iast (z := F1 344 4) (v := k + 1) hm_49 rfl sc_348 (by omega) (by omega) (by omega) ?_
        refine ga_aload_n (v := .ref 344) hm_49 rfl rfl rfl ?_
        refine ga_dup hm_49 rfl rfl ?_
        refine ga_geti (z := F1 344 4) hm_49 rfl sc_344 rfl ((fl_u_ne (by omega)).trans (fl_u_ne (by omega))) ?_
        refine fl_iconst hm_49 rfl ?_
        refine ga_iadd (a := F1 344 4) (b := 1) (c := F1 344 4 + 1) hm_49 rfl (by omega) ?_
        refine ga_puti (z := F1 344 4 + 1) hm_49 rfl sc_344 rfl rfl ?_
        refine fl_goto hm_49 rfl ?_
        obtain ⟨F31_, q32_⟩ : ∃ F9_, F9_ = (fl_u (fl_u (fl_u F1 347 (F1 344 4).toNat k) 348 (F1 344 4).toNat (k + 1)) 344 4 (F1 344 4 + 1)) := ⟨_, rfl⟩
        rw [← q32_]
        have g33_ : gi F31_ := by rw [q32_]; exact gi_u (gi_u (gi_u (hg_F1) rfl (by omega) (by omega)) rfl (by omega) (by omega)) rfl (by omega) (by omega)
        have g34_ : fs [(344, 344, 4, 5), (347, 348, 0, 100000)] F F31_ := by rw [q32_]; exact fs_u (fs_u (fs_u (g9_) (fs_z (fs_y (by omega)))) (fs_z (fs_y (by omega)))) rfl
        have e35_ : F31_ 344 4 = F1 344 4 + 1 := by rw [q32_]; exact fl_u_eq
        exact fl_R_sub (lv' := [(1, .int (Int32.ofInt (k + 1))), (0, .ref 344)]) rfl rfl (ih7_ _ (by omega) (k + 1) (_) F31_ rfl g33_ (by rw [q32_]; exact fs_u (fs_u (fs_u (hf_F1) (fs_z (fs_y (by omega)))) (fs_z (fs_y (by omega)))) rfl) (by omega) (by rw [q32_]; exact trl_snoc hcnt (by omega) (by omega)) (by (try simp only [List.length_append, List.length_singleton]); omega) (by rw [htk, tz5 (by omega) (by omega) (by omega) rfl]; simp))
      refine ga_aload_n (v := .ref 344) hm_49 rfl rfl rfl ?_
      refine ga_getr (b := 345) hm_49 rfl sc_344 rfl ?_
      refine ga_iload_n (z := k) hm_49 rfl rfl ?_
      refine ga_iald (z := k) (w := F 345 k.toNat) hm_49 rfl sc_345 (by omega) (by omega) (by omega) ((fl_u_ne (by omega)).trans (e24_)) ?_
      refine fl_bipush hm_49 rfl rfl ?_
      refine fx_icmp_ne (a := F 345 k.toNat) (b := 41) hm_49 rfl ⟨by omega, by omega⟩ ⟨by omega, by omega⟩ (fun h36_ => ?_) (fun h37_ => ?_)
      ·
        refine fl_iconst hm_49 rfl ?_
        refine ga_istore_n (lv2 := [(2, .int (Int32.ofInt 0)), (1, .int (Int32.ofInt k)), (0, .ref 344)]) hm_49 rfl (Nat.le_of_ble_eq_true rfl) rfl ?_
        refine ga_inc (a := k) (c := k + 1) (lv2 := [(1, .int (Int32.ofInt (k + 1))), (2, .int (Int32.ofInt 0)), (0, .ref 344)]) hm_49 rfl rfl (Nat.le_of_ble_eq_true rfl) rfl rfl ?_
        obtain ⟨F38_, q39_⟩ : ∃ F9_, F9_ = (fl_u F1 347 (F1 344 4).toNat k) := ⟨_, rfl⟩
        rw [← q39_]
        have g40_ : gi F38_ := by rw [q39_]; exact gi_u (hg_F1) rfl (by omega) (by omega)
        have g41_ : fs [(344, 344, 4, 5), (347, 348, 0, 100000)] F F38_ := by rw [q39_]; exact fs_u (g9_) (fs_z (fs_y (by omega)))
        have L43_ : ∀ (n42_ : Nat) (e : Int), (F 344 1 - e : Int).toNat = n42_ → (k < e ∧ e ≤ F 344 1) → (tkz (F 345) (F 344 1 - k).toNat k.toNat (-1) = tkz (F 345) (F 344 1 - e).toNat e.toNat k) → fl_R xi_ms 49 fr lo 78 [(1, .int (Int32.ofInt e)), (2, .int (Int32.ofInt 0)), (0, .ref 344)] [] (fl_H sh_T G F38_ ++ X) (pq_49 G F X) := by
          intro n42_
          induction n42_ using Nat.strongRecOn with
          | ind n42_ ih44_ =>
          intro e hn45_ hi2 ht2
          refine ga_iload_n (z := 0) hm_49 rfl rfl ?_
          refine fl_if_ne hm_49 rfl ⟨by omega, by omega⟩ (fun h => absurd h (by omega)) (fun _ => ?_)
          refine ga_iload_n (z := e) hm_49 rfl rfl ?_
          refine ga_aload_n (v := .ref 344) hm_49 rfl rfl rfl ?_
          have e46_ : F38_ 344 1 = F 344 1 := by rw [q39_]; exact (fl_u_ne (by omega)).trans (e11_)
          refine ga_geti (z := F 344 1) hm_49 rfl sc_344 rfl (e46_) ?_
          refine fl_icmp_ge (a := e) (b := F 344 1) hm_49 rfl ⟨by omega, by omega⟩ ⟨by omega, by omega⟩ (fun h47_ => ?_) (fun h48_ => ?_)
          ·
            refine ga_aload_n (v := .ref 344) hm_49 rfl rfl rfl ?_
            refine ga_getr (b := 348) hm_49 rfl sc_344 rfl ?_
            refine ga_aload_n (v := .ref 344) hm_49 rfl rfl rfl ?_
            have e49_ : F38_ 344 4 = F1 344 4 := by rw [q39_]; exact fl_u_ne (by omega)
            refine ga_geti (z := F1 344 4) hm_49 rfl sc_344 rfl (e49_) ?_
            refine ga_iload_n (z := e) hm_49 rfl rfl ?_
            refine fl_iast (z := F1 344 4) (v := e) hm_49 rfl sc_348 (by omega) (by omega) (by omega) ?_
            refine ga_aload_n (v := .ref 344) hm_49 rfl rfl rfl ?_
            refine ga_dup hm_49 rfl rfl ?_
            refine ga_geti (z := F1 344 4) hm_49 rfl sc_344 rfl ((fl_u_ne (by omega)).trans (e49_)) ?_
            refine fl_iconst hm_49 rfl ?_
            refine ga_iadd (a := F1 344 4) (b := 1) (c := F1 344 4 + 1) hm_49 rfl (by omega) ?_
            refine ga_puti (z := F1 344 4 + 1) hm_49 rfl sc_344 rfl rfl ?_
            refine fl_goto hm_49 rfl ?_
            obtain ⟨F50_, q51_⟩ : ∃ F9_, F9_ = (fl_u (fl_u F38_ 348 (F1 344 4).toNat e) 344 4 (F1 344 4 + 1)) := ⟨_, rfl⟩
            rw [← q51_]
            have g52_ : gi F50_ := by rw [q51_]; exact gi_u (gi_u (g40_) rfl (by omega) (by omega)) rfl (by omega) (by omega)
            have g53_ : fs [(344, 344, 4, 5), (347, 348, 0, 100000)] F F50_ := by rw [q51_]; exact fs_u (fs_u (g41_) (fs_z (fs_y (by omega)))) rfl
            have e54_ : F50_ 344 4 = F1 344 4 + 1 := by rw [q51_]; exact fl_u_eq
            exact fl_R_sub (lv' := [(1, .int (Int32.ofInt e)), (0, .ref 344)]) rfl rfl (ih7_ _ (by omega) (e) (_) F50_ rfl g52_ (by rw [q51_]; exact fs_u (fs_u ((by rw [q39_]; exact fs_u (hf_F1) (fs_z (fs_y (by omega))))) (fs_z (fs_y (by omega)))) rfl) (by omega) (by rw [q51_, q39_]; exact trl_snoc hcnt (by omega) (by omega)) (by (try simp only [List.length_append, List.length_singleton]); omega) (by rw [htk, ht2, tz9 (by omega) (by omega) (by omega) (by omega)]; simp))
          refine ga_aload_n (v := .ref 344) hm_49 rfl rfl rfl ?_
          refine ga_getr (b := 345) hm_49 rfl sc_344 rfl ?_
          refine ga_iload_n (z := e) hm_49 rfl rfl ?_
          have e55_ : F1_ 345 e.toNat = F 345 e.toNat := by rw [q2_]; exact (fl_u_ne (by omega)).trans (fl_u_ne (by omega))
          have e56_ : F1 345 e.toNat = F 345 e.toNat := (hf_F1 345 e.toNat (fs_n (by omega) (fs_n (by omega) rfl))).trans (e55_)
          have e57_ : F38_ 345 e.toNat = F 345 e.toNat := by rw [q39_]; exact (fl_u_ne (by omega)).trans (e56_)
          have b58_ : 0 ≤ F 345 e.toNat ∧ F 345 e.toNat ≤ 126 := gi_g hgi rfl
          refine ga_iald (z := e) (w := F 345 e.toNat) hm_49 rfl sc_345 (by omega) (by omega) (by omega) (e57_) ?_
          refine fl_bipush hm_49 rfl rfl ?_
          refine fl_icmp_eq (a := F 345 e.toNat) (b := 32) hm_49 rfl ⟨by omega, by omega⟩ ⟨by omega, by omega⟩ (fun h59_ => ?_) (fun h60_ => ?_)
          ·
            refine ga_aload_n (v := .ref 344) hm_49 rfl rfl rfl ?_
            refine ga_getr (b := 348) hm_49 rfl sc_344 rfl ?_
            refine ga_aload_n (v := .ref 344) hm_49 rfl rfl rfl ?_
            have e61_ : F38_ 344 4 = F1 344 4 := by rw [q39_]; exact fl_u_ne (by omega)
            refine ga_geti (z := F1 344 4) hm_49 rfl sc_344 rfl (e61_) ?_
            refine ga_iload_n (z := e) hm_49 rfl rfl ?_
            refine fl_iast (z := F1 344 4) (v := e) hm_49 rfl sc_348 (by omega) (by omega) (by omega) ?_
            refine ga_aload_n (v := .ref 344) hm_49 rfl rfl rfl ?_
            refine ga_dup hm_49 rfl rfl ?_
            refine ga_geti (z := F1 344 4) hm_49 rfl sc_344 rfl ((fl_u_ne (by omega)).trans (e61_)) ?_
            refine fl_iconst hm_49 rfl ?_
            refine ga_iadd (a := F1 344 4) (b := 1) (c := F1 344 4 + 1) hm_49 rfl (by omega) ?_
            refine ga_puti (z := F1 344 4 + 1) hm_49 rfl sc_344 rfl rfl ?_
            refine fl_goto hm_49 rfl ?_
            obtain ⟨F62_, q63_⟩ : ∃ F9_, F9_ = (fl_u (fl_u F38_ 348 (F1 344 4).toNat e) 344 4 (F1 344 4 + 1)) := ⟨_, rfl⟩
            rw [← q63_]
            have g64_ : gi F62_ := by rw [q63_]; exact gi_u (gi_u (g40_) rfl (by omega) (by omega)) rfl (by omega) (by omega)
            have g65_ : fs [(344, 344, 4, 5), (347, 348, 0, 100000)] F F62_ := by rw [q63_]; exact fs_u (fs_u (g41_) (fs_z (fs_y (by omega)))) rfl
            have e66_ : F62_ 344 4 = F1 344 4 + 1 := by rw [q63_]; exact fl_u_eq
            exact fl_R_sub (lv' := [(1, .int (Int32.ofInt e)), (0, .ref 344)]) rfl rfl (ih7_ _ (by omega) (e) (_) F62_ rfl g64_ (by rw [q63_]; exact fs_u (fs_u ((by rw [q39_]; exact fs_u (hf_F1) (fs_z (fs_y (by omega))))) (fs_z (fs_y (by omega)))) rfl) (by omega) (by rw [q63_, q39_]; exact trl_snoc hcnt (by omega) (by omega)) (by (try simp only [List.length_append, List.length_singleton]); omega) (by rw [htk, ht2, tz9 (by omega) (by omega) (by omega) (by omega)]; simp))
          refine ga_aload_n (v := .ref 344) hm_49 rfl rfl rfl ?_
          refine ga_getr (b := 345) hm_49 rfl sc_344 rfl ?_
          refine ga_iload_n (z := e) hm_49 rfl rfl ?_
          refine ga_iald (z := e) (w := F 345 e.toNat) hm_49 rfl sc_345 (by omega) (by omega) (by omega) (e57_) ?_
          refine fl_bipush hm_49 rfl rfl ?_
          refine fl_icmp_eq (a := F 345 e.toNat) (b := 40) hm_49 rfl ⟨by omega, by omega⟩ ⟨by omega, by omega⟩ (fun h67_ => ?_) (fun h68_ => ?_)
          ·
            refine ga_aload_n (v := .ref 344) hm_49 rfl rfl rfl ?_
            refine ga_getr (b := 348) hm_49 rfl sc_344 rfl ?_
            refine ga_aload_n (v := .ref 344) hm_49 rfl rfl rfl ?_
            have e69_ : F38_ 344 4 = F1 344 4 := by rw [q39_]; exact fl_u_ne (by omega)
            refine ga_geti (z := F1 344 4) hm_49 rfl sc_344 rfl (e69_) ?_
            refine ga_iload_n (z := e) hm_49 rfl rfl ?_
            refine fl_iast (z := F1 344 4) (v := e) hm_49 rfl sc_348 (by omega) (by omega) (by omega) ?_
            refine ga_aload_n (v := .ref 344) hm_49 rfl rfl rfl ?_
            refine ga_dup hm_49 rfl rfl ?_
            refine ga_geti (z := F1 344 4) hm_49 rfl sc_344 rfl ((fl_u_ne (by omega)).trans (e69_)) ?_
            refine fl_iconst hm_49 rfl ?_
            refine ga_iadd (a := F1 344 4) (b := 1) (c := F1 344 4 + 1) hm_49 rfl (by omega) ?_
            refine ga_puti (z := F1 344 4 + 1) hm_49 rfl sc_344 rfl rfl ?_
            refine fl_goto hm_49 rfl ?_
            obtain ⟨F70_, q71_⟩ : ∃ F9_, F9_ = (fl_u (fl_u F38_ 348 (F1 344 4).toNat e) 344 4 (F1 344 4 + 1)) := ⟨_, rfl⟩
            rw [← q71_]
            have g72_ : gi F70_ := by rw [q71_]; exact gi_u (gi_u (g40_) rfl (by omega) (by omega)) rfl (by omega) (by omega)
            have g73_ : fs [(344, 344, 4, 5), (347, 348, 0, 100000)] F F70_ := by rw [q71_]; exact fs_u (fs_u (g41_) (fs_z (fs_y (by omega)))) rfl
            have e74_ : F70_ 344 4 = F1 344 4 + 1 := by rw [q71_]; exact fl_u_eq
            exact fl_R_sub (lv' := [(1, .int (Int32.ofInt e)), (0, .ref 344)]) rfl rfl (ih7_ _ (by omega) (e) (_) F70_ rfl g72_ (by rw [q71_]; exact fs_u (fs_u ((by rw [q39_]; exact fs_u (hf_F1) (fs_z (fs_y (by omega))))) (fs_z (fs_y (by omega)))) rfl) (by omega) (by rw [q71_, q39_]; exact trl_snoc hcnt (by omega) (by omega)) (by (try simp only [List.length_append, List.length_singleton]); omega) (by rw [htk, ht2, tz9 (by omega) (by omega) (by omega) (by omega)]; simp))
          refine ga_aload_n (v := .ref 344) hm_49 rfl rfl rfl ?_
          refine ga_getr (b := 345) hm_49 rfl sc_344 rfl ?_
          refine ga_iload_n (z := e) hm_49 rfl rfl ?_
          refine ga_iald (z := e) (w := F 345 e.toNat) hm_49 rfl sc_345 (by omega) (by omega) (by omega) (e57_) ?_
          refine fl_bipush hm_49 rfl rfl ?_
          refine fl_icmp_eq (a := F 345 e.toNat) (b := 41) hm_49 rfl ⟨by omega, by omega⟩ ⟨by omega, by omega⟩ (fun h75_ => ?_) (fun h76_ => ?_)
          ·
            refine ga_aload_n (v := .ref 344) hm_49 rfl rfl rfl ?_
            refine ga_getr (b := 348) hm_49 rfl sc_344 rfl ?_
            refine ga_aload_n (v := .ref 344) hm_49 rfl rfl rfl ?_
            have e77_ : F38_ 344 4 = F1 344 4 := by rw [q39_]; exact fl_u_ne (by omega)
            refine ga_geti (z := F1 344 4) hm_49 rfl sc_344 rfl (e77_) ?_
            refine ga_iload_n (z := e) hm_49 rfl rfl ?_
            refine fl_iast (z := F1 344 4) (v := e) hm_49 rfl sc_348 (by omega) (by omega) (by omega) ?_
            refine ga_aload_n (v := .ref 344) hm_49 rfl rfl rfl ?_
            refine ga_dup hm_49 rfl rfl ?_
            refine ga_geti (z := F1 344 4) hm_49 rfl sc_344 rfl ((fl_u_ne (by omega)).trans (e77_)) ?_
            refine fl_iconst hm_49 rfl ?_
            refine ga_iadd (a := F1 344 4) (b := 1) (c := F1 344 4 + 1) hm_49 rfl (by omega) ?_
            refine ga_puti (z := F1 344 4 + 1) hm_49 rfl sc_344 rfl rfl ?_
            refine fl_goto hm_49 rfl ?_
            obtain ⟨F78_, q79_⟩ : ∃ F9_, F9_ = (fl_u (fl_u F38_ 348 (F1 344 4).toNat e) 344 4 (F1 344 4 + 1)) := ⟨_, rfl⟩
            rw [← q79_]
            have g80_ : gi F78_ := by rw [q79_]; exact gi_u (gi_u (g40_) rfl (by omega) (by omega)) rfl (by omega) (by omega)
            have g81_ : fs [(344, 344, 4, 5), (347, 348, 0, 100000)] F F78_ := by rw [q79_]; exact fs_u (fs_u (g41_) (fs_z (fs_y (by omega)))) rfl
            have e82_ : F78_ 344 4 = F1 344 4 + 1 := by rw [q79_]; exact fl_u_eq
            exact fl_R_sub (lv' := [(1, .int (Int32.ofInt e)), (0, .ref 344)]) rfl rfl (ih7_ _ (by omega) (e) (_) F78_ rfl g80_ (by rw [q79_]; exact fs_u (fs_u ((by rw [q39_]; exact fs_u (hf_F1) (fs_z (fs_y (by omega))))) (fs_z (fs_y (by omega)))) rfl) (by omega) (by rw [q79_, q39_]; exact trl_snoc hcnt (by omega) (by omega)) (by (try simp only [List.length_append, List.length_singleton]); omega) (by rw [htk, ht2, tz9 (by omega) (by omega) (by omega) (by omega)]; simp))
          refine ga_inc (a := e) (c := e + 1) (lv2 := [(1, .int (Int32.ofInt (e + 1))), (2, .int (Int32.ofInt 0)), (0, .ref 344)]) hm_49 rfl rfl (Nat.le_of_ble_eq_true rfl) rfl rfl ?_
          refine fl_goto hm_49 rfl ?_
          exact ih44_ _ (by omega) (e + 1) rfl (by omega) (by rw [ht2, tz2 (by omega) (by omega) (by omega) (by omega)])
        exact L43_ _ (k + 1) rfl (by omega) (tz1 (by omega) (by omega) (by omega) (by omega))
      refine fl_iconst hm_49 rfl ?_
      refine fl_goto hm_49 rfl ?_
      refine ga_istore_n (lv2 := [(2, .int (Int32.ofInt 1)), (1, .int (Int32.ofInt k)), (0, .ref 344)]) hm_49 rfl (Nat.le_of_ble_eq_true rfl) rfl ?_
      refine ga_inc (a := k) (c := k + 1) (lv2 := [(1, .int (Int32.ofInt (k + 1))), (2, .int (Int32.ofInt 1)), (0, .ref 344)]) hm_49 rfl rfl (Nat.le_of_ble_eq_true rfl) rfl rfl ?_
      refine ga_iload_n (z := 1) hm_49 rfl rfl ?_
      refine fl_if_ne hm_49 rfl ⟨by omega, by omega⟩ (fun _ => ?_) (fun h => absurd (by omega) h)
      refine ga_aload_n (v := .ref 344) hm_49 rfl rfl rfl ?_
      refine ga_getr (b := 348) hm_49 rfl sc_344 rfl ?_
      refine ga_aload_n (v := .ref 344) hm_49 rfl rfl rfl ?_
      refine ga_geti (z := F1 344 4) hm_49 rfl sc_344 rfl (fl_u_ne (by omega)) ?_
      refine ga_iload_n (z := k + 1) hm_49 rfl rfl ?_
      refine fl_iast (z := F1 344 4) (v := k + 1) hm_49 rfl sc_348 (by omega) (by omega) (by omega) ?_
      refine ga_aload_n (v := .ref 344) hm_49 rfl rfl rfl ?_
      refine ga_dup hm_49 rfl rfl ?_
      refine ga_geti (z := F1 344 4) hm_49 rfl sc_344 rfl ((fl_u_ne (by omega)).trans (fl_u_ne (by omega))) ?_
      refine fl_iconst hm_49 rfl ?_
      refine ga_iadd (a := F1 344 4) (b := 1) (c := F1 344 4 + 1) hm_49 rfl (by omega) ?_
      refine ga_puti (z := F1 344 4 + 1) hm_49 rfl sc_344 rfl rfl ?_
      refine fl_goto hm_49 rfl ?_
      obtain ⟨F83_, q84_⟩ : ∃ F9_, F9_ = (fl_u (fl_u (fl_u F1 347 (F1 344 4).toNat k) 348 (F1 344 4).toNat (k + 1)) 344 4 (F1 344 4 + 1)) := ⟨_, rfl⟩
      rw [← q84_]
      have g85_ : gi F83_ := by rw [q84_]; exact gi_u (gi_u (gi_u (hg_F1) rfl (by omega) (by omega)) rfl (by omega) (by omega)) rfl (by omega) (by omega)
      have g86_ : fs [(344, 344, 4, 5), (347, 348, 0, 100000)] F F83_ := by rw [q84_]; exact fs_u (fs_u (fs_u (g9_) (fs_z (fs_y (by omega)))) (fs_z (fs_y (by omega)))) rfl
      have e87_ : F83_ 344 4 = F1 344 4 + 1 := by rw [q84_]; exact fl_u_eq
      exact fl_R_sub (lv' := [(1, .int (Int32.ofInt (k + 1))), (0, .ref 344)]) rfl rfl (ih7_ _ (by omega) (k + 1) (_) F83_ rfl g85_ (by rw [q84_]; exact fs_u (fs_u (fs_u (hf_F1) (fs_z (fs_y (by omega)))) (fs_z (fs_y (by omega)))) rfl) (by omega) (by rw [q84_]; exact trl_snoc hcnt (by omega) (by omega)) (by (try simp only [List.length_append, List.length_singleton]); omega) (by rw [htk, tz5 (by omega) (by omega) (by omega) rfl]; simp))
    refine ga_inc (a := k) (c := k + 1) (lv2 := [(1, .int (Int32.ofInt (k + 1))), (0, .ref 344)]) hm_49 rfl rfl (Nat.le_of_ble_eq_true rfl) rfl rfl ?_
    refine fl_goto hm_49 rfl ?_
    have b88_ : 0 ≤ F1 344 4 ∧ F1 344 4 ≤ 600 := gi_g hg_F1 rfl
    exact ih7_ _ (by omega) (k + 1) (_) F1 rfl hg_F1 hf_F1 (by omega) (hcnt) (by (try simp only [List.length_append, List.length_singleton]); omega) (by rw [htk, tz3 (by omega) (by omega) (by omega) rfl])
  have b89_ : 0 ≤ F 344 1 ∧ F 344 1 ≤ 600 := gi_g hgi rfl
  have e90_ : F1_ 344 4 = 0 := by rw [q2_]; exact (fl_u_ne (by omega)).trans (fl_u_eq)
  exact L6_ _ (0) ([]) F1_ rfl g3_ fs_refl (by omega) (⟨fun j q hq => by simp at hq, by rw [q2_]; simp [fl_u]⟩) (by simp) (by simp)

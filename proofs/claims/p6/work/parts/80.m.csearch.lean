/- CheapPlanner$Search.goOnFrom -/
abbrev pq_135v (G : Nat → Nat → Option Nat) (F : fl_N) (X : xi_H) (fm pr : Int) (P : pp_T) (W : tb_T × Bool) : Outcome → xi_H → Prop := gqv (fun A => ∃ F' : fl_N, fl_H sh_T G F' ++ X = A ∧ gi F' ∧ fs [(331, 331, 8, 8), (331, 331, 10, 11), (332, 338, 0, 100000)] F F' ∧ (li F') ∧ (F 331 8 ≤ F' 331 8) ∧ (rwE F F' P W fm.toNat (F 120 3).toNat pr)) gqn
theorem mc_135v {G : Nat → Nat → Option Nat} (hG : gg G) (F : fl_N) (X : xi_H) (hgi : gi F) (fm pr : Int) (P : pp_T) (W : tb_T × Bool) (hli : li F) (hf : 0 ≤ fm ∧ fm < F 331 8) (hpr : -2147483648 ≤ pr ∧ pr ≤ 2147483647) (hP : P = pC F) (hT : tS F W.1) (h10 : F 331 10 = bi W.2) (hcb : 0 ≤ F 331 12 ∧ F 331 12 ≤ 1000000) (hpe : pr = F 331 12 - ca W.1 fm.toNat) (hcw : 0 ≤ ca W.1 fm.toNat ∧ ca W.1 fm.toNat ≤ 1000000) : fl_M xi_ms 135 3 77 [.ref 331, .int (Int32.ofInt fm), .int (Int32.ofInt pr)] (fl_H sh_T G F ++ X) (pq_135v G F X fm pr P W) := by
  intro fr lo hfr hlo
  show fl_R xi_ms 135 fr lo 0 [(0, .ref 331), (1, .int (Int32.ofInt fm)), (2, .int (Int32.ofInt pr))] [] _ _
  have hb8 : 0 ≤ F 331 8 ∧ F 331 8 ≤ 200 := gi_g hgi rfl
  have hT1 := hT.1
  have hfl_ : fm.toNat < W.1.length := by omega
  have hb9 : 0 ≤ F 331 9 ∧ F 331 9 ≤ 200 := gi_g hgi rfl
  have hb123 : 0 ≤ F 120 3 ∧ F 120 3 ≤ 41 := gi_g hgi rfl
  refine fl_iconst hm_135 rfl ?_
  refine ga_istore_n (lv2 := [(3, .int (Int32.ofInt 0)), (0, .ref 331), (1, .int (Int32.ofInt fm)), (2, .int (Int32.ofInt pr))]) hm_135 rfl (Nat.le_of_ble_eq_true rfl) rfl ?_
  have b4_ : 0 ≤ F 331 8 ∧ F 331 8 ≤ 200 := gi_g hgi rfl
  have b5_ : 0 ≤ F 120 3 ∧ F 120 3 ≤ 41 := gi_g hgi rfl
  have L2_ : ∀ (n1_ : Nat) (k : Int) (F1 : fl_N), (F1 120 3 - k : Int).toNat = n1_ → (gi F1) → (fs [(331, 331, 8, 8), (331, 331, 10, 11), (332, 338, 0, 100000)] F F1) → (0 ≤ k ∧ k ≤ 41) → (li F1) → (F 331 8 ≤ F1 331 8) → (k ≤ F 120 3) → (rwS F F1 P W fm.toNat k.toNat) → fl_R xi_ms 135 fr lo 2 [(3, .int (Int32.ofInt k)), (0, .ref 331), (1, .int (Int32.ofInt fm)), (2, .int (Int32.ofInt pr))] [] (fl_H sh_T G F1 ++ X) (pq_135v G F X fm pr P W) := by
    intro n1_
    induction n1_ using Nat.strongRecOn with
    | ind n1_ ih3_ =>
    intro k F1 hn6_ hg_F1 hf_F1 hk hl1 hg hk2 hrw
    have g7_ : fs [(331, 331, 8, 8), (331, 331, 10, 11), (332, 338, 0, 100000)] F F1 := fs_tr fs_refl hf_F1 rfl
    refine ga_iload_n (z := k) hm_135 rfl rfl ?_
    refine ga_aload_n (v := .ref 331) hm_135 rfl rfl rfl ?_
    refine ga_getr (b := 120) hm_135 rfl sc_331 rfl ?_
    have e8_ : F1 120 3 = F 120 3 := (hf_F1 120 3 rfl).trans (rfl)
    refine ga_geti (z := F 120 3) hm_135 rfl sc_120 rfl (e8_) ?_
    refine fl_icmp_ge (a := k) (b := F 120 3) hm_135 rfl ⟨by omega, by omega⟩ ⟨by omega, by omega⟩ (fun h9_ => ?_) (fun h10_ => ?_)
    ·
      refine ga_aload_n (v := .ref 331) hm_135 rfl rfl rfl ?_
      refine ga_iload_n (z := fm) hm_135 rfl rfl ?_
      refine ga_iload_n (z := pr) hm_135 rfl rfl ?_
      refine gVv (nY := 6) (F := 0) (L := 0) (As := [.int (Int32.ofInt fm), .int (Int32.ofInt pr)]) (b := 331) (rest := []) hm_135 rfl hm_141 rfl rfl (fl_ob sc_331) rfl rfl rfl rfl rfl (by omega) (by omega) (mc_141v hG F1 X hg_F1 (fm) (pr) (⟨by omega, by omega⟩) (⟨by omega, by omega⟩) (by have h9_ := hrw.1.2.2.1 fm.toNat (by have h8_ := hrw.1.1; have h7_ := hg; omega); rw [h9_, rsw_ca hfl_]; exact hcw)) (fun _ _ h => False.elim h) ?_
      rintro A1_ ⟨F14_, hA_, g15_, s16_, c12_, c13_⟩
      subst hA_
      have g17_ : fs [(331, 331, 8, 8), (331, 331, 10, 11), (332, 338, 0, 100000)] F F14_ := fs_tr g7_ s16_ rfl
      refine gr_v hm_135 rfl rfl ?_
      have e18_ : F14_ 331 8 = F1 331 8 := (s16_ 331 8 rfl).trans (rfl)
      have b19_ : 0 ≤ F1 331 8 ∧ F1 331 8 ≤ 200 := gi_g hg_F1 rfl
      exact ⟨F14_, rfl, g15_, g17_, (li_cg hl1 ((show F14_ 331 8 = F1 331 8 from (s16_ 331 8 (by first | exact fs_c rfl | exact (fs_n (by omega) rfl))))) ((show F14_ 331 11 = F1 331 11 from (s16_ 331 11 (by first | exact fs_c rfl | exact (fs_n (by omega) rfl))))) (fun i => (show F14_ 335 i = F1 335 i from (s16_ 335 i (by first | exact fs_c rfl | exact (fs_n (by omega) rfl)))))), (by omega), (by have hk3_ : k.toNat = (F 120 3).toNat := (by omega); rw [hk3_] at hrw; exact rwE_of hrw hfl_ (ts_cg hrw.1 ((show F14_ 331 8 = F1 331 8 from (s16_ 331 8 (by first | exact fs_c rfl | exact (fs_n (by omega) rfl))))) (fun j => (show F14_ 332 j = F1 332 j from (s16_ 332 j (by first | exact fs_c rfl | exact (fs_n (by omega) rfl))))) (fun j => (show F14_ 333 j = F1 333 j from (s16_ 333 j (by first | exact fs_c rfl | exact (fs_n (by omega) rfl))))) (fun j => (show F14_ 338 j = F1 338 j from (s16_ 338 j (by first | exact fs_c rfl | exact (fs_n (by omega) rfl)))))) ((show F14_ 331 10 = F1 331 10 from (s16_ 331 10 (by first | exact fs_c rfl | exact (fs_n (by omega) rfl))))) ((show F14_ 331 11 = F1 331 11 from (s16_ 331 11 (by first | exact fs_c rfl | exact (fs_n (by omega) rfl))))) (fun j hj => Eq.trans (rfl) (c13_ j hj)) (by have h9_ := c12_; have h8_ := hrw.1.2.2.1 fm.toNat (by have h7_ := hrw.1.1; omega); rw [rsw_ca hfl_] at h8_; rw [h8_] at h9_; exact sdu_cg (by omega) h9_ (fun r j hr => (show F1 (r) j = F (r) j from (hf_F1 (r) j (by first | exact fs_c rfl | exact (fs_n (by omega) (fs_n (by omega) (fs_n (by omega) rfl)))))))))⟩
    refine ga_aload_n (v := .ref 331) hm_135 rfl rfl rfl ?_
    refine ga_getr (b := 120) hm_135 rfl sc_331 rfl ?_
    refine ga_getr (b := 122) hm_135 rfl sc_120 rfl ?_
    refine ga_iload_n (z := k) hm_135 rfl rfl ?_
    obtain ⟨a20_, r21_, n22_, q23_⟩ := ra_122 (k).toNat (by omega)
    refine fl_aald (z := k) (q := a20_) hm_135 rfl sc_122 (hG _ _ _ sc_122) rfl (by omega) (by simp only [List.length_cons, List.length_nil]; omega) (by simp only [List.length_cons, List.length_nil]; omega) r21_ ?_
    refine ga_astore (lv2 := [(4, .ref a20_), (3, .int (Int32.ofInt k)), (0, .ref 331), (1, .int (Int32.ofInt fm)), (2, .int (Int32.ofInt pr))]) hm_135 rfl (Nat.le_of_ble_eq_true rfl) rfl ?_
    refine ga_aload (v := .ref a20_) hm_135 rfl rfl rfl ?_
    have e24_ : F1 a20_ 2 = F a20_ 2 := (hf_F1 a20_ 2 (by first | exact fs_c rfl | exact (fs_n (by omega) (fs_n (by omega) (fs_n (by omega) rfl))))).trans (rfl)
    have b25_ : 0 ≤ F a20_ 2 ∧ F a20_ 2 ≤ 999 := gi_g hgi n22_.2.1.2.2.1
    refine ga_geti (z := F a20_ 2) hm_135 rfl n22_.1.1 rfl (e24_) ?_
    refine ga_iload_n (z := pr) hm_135 rfl rfl ?_
    refine fx_icmp_ne (a := F a20_ 2) (b := pr) hm_135 rfl ⟨by omega, by omega⟩ ⟨by omega, by omega⟩ (fun h26_ => ?_) (fun h27_ => ?_)
    ·
      refine ga_inc (a := k) (c := k + 1) (lv2 := [(3, .int (Int32.ofInt (k + 1))), (4, .ref a20_), (0, .ref 331), (1, .int (Int32.ofInt fm)), (2, .int (Int32.ofInt pr))]) hm_135 rfl rfl (Nat.le_of_ble_eq_true rfl) rfl rfl ?_
      refine fl_goto hm_135 rfl ?_
      have b28_ : 0 ≤ F1 331 8 ∧ F1 331 8 ≤ 200 := gi_g hg_F1 rfl
      exact fl_R_sub (lv' := [(3, .int (Int32.ofInt (k + 1))), (0, .ref 331), (1, .int (Int32.ofInt fm)), (2, .int (Int32.ofInt pr))]) rfl rfl (ih3_ _ (by omega) (k + 1) F1 rfl hg_F1 hf_F1 (⟨by omega, by omega⟩) (hl1) (by omega) (by omega) (by rw [show (k + 1).toNat = k.toNat + 1 by omega]; exact rwS_n hrw hfl_ (by rw [hP]; intro h9_; have h8_ := (way_c0 hfl_ (show ((k.toNat : Nat) : Int) < F 120 3 by omega) hpe).mp h9_; rw [← q23_] at h8_; omega)))
    refine ga_aload (v := .ref a20_) hm_135 rfl rfl rfl ?_
    refine ga_getr (b := a20_ + 2) hm_135 rfl n22_.1.1 rfl ?_
    refine ga_aload_n (v := .ref 331) hm_135 rfl rfl rfl ?_
    refine ga_getr (b := 332) hm_135 rfl sc_331 rfl ?_
    refine ga_iload_n (z := fm) hm_135 rfl rfl ?_
    have b29_ : -9223372036854775808 ≤ F1 332 fm.toNat ∧ F1 332 fm.toNat ≤ 9223372036854775807 := gi_g hg_F1 rfl
    refine ga_lald (z := fm) (w := F1 332 fm.toNat) hm_135 rfl sc_332 (by omega) (by omega) (by omega) (rfl) ?_
    refine gVi (nY := 3) (F := 0) (L := 0) (As := [.long (Int64.ofInt (F1 332 fm.toNat))]) (b := a20_ + 2) (rest := []) hm_135 rfl hm_115 rfl rfl (fl_ob n22_.1.2.2.1) rfl rfl rfl rfl rfl (by omega) (by omega) (mc_115v hG F1 X hg_F1 (a20_ + 2) (F1 332 fm.toNat) (nd_sp n22_) (⟨by omega, by omega⟩)) (fun _ _ h => False.elim h) ?_
    rintro z30_ A1_ (⟨hA_, hz_, c31_⟩ | ⟨hA_, hz_, c32_⟩)
    ·
      subst hA_
      subst hz_
      refine fl_if_eq hm_135 rfl ⟨by omega, by omega⟩ (fun _ => ?_) (fun h => absurd (by omega) h)
      refine ga_inc (a := k) (c := k + 1) (lv2 := [(3, .int (Int32.ofInt (k + 1))), (4, .ref a20_), (0, .ref 331), (1, .int (Int32.ofInt fm)), (2, .int (Int32.ofInt pr))]) hm_135 rfl rfl (Nat.le_of_ble_eq_true rfl) rfl rfl ?_
      refine fl_goto hm_135 rfl ?_
      have b33_ : 0 ≤ F1 331 8 ∧ F1 331 8 ≤ 200 := gi_g hg_F1 rfl
      exact fl_R_sub (lv' := [(3, .int (Int32.ofInt (k + 1))), (0, .ref 331), (1, .int (Int32.ofInt fm)), (2, .int (Int32.ofInt pr))]) rfl rfl (ih3_ _ (by omega) (k + 1) F1 rfl hg_F1 hf_F1 (⟨by omega, by omega⟩) (hl1) (by omega) (by omega) (by rw [show (k + 1).toNat = k.toNat + 1 by omega]; exact rwS_n hrw hfl_ (by rw [hP]; intro h9_; have h8_ := (way_c0 hfl_ (show ((k.toNat : Nat) : Int) < F 120 3 by omega) hpe).mp h9_; exact c31_ (by rw [rwS_x hrw hfl_, hN_cg (F := F) (F' := F1) (fun j => (show F1 ((a20_ + 2)) j = F ((a20_ + 2)) j from (hf_F1 ((a20_ + 2)) j (by first | exact fs_c rfl | exact (fs_n (by omega) (fs_n (by omega) (fs_n (by omega) rfl))))))), q23_]; exact h8_.2))))
    subst hA_
    subst hz_
    refine fl_if_eq hm_135 rfl ⟨by omega, by omega⟩ (fun h => absurd h (by omega)) (fun _ => ?_)
    refine ga_aload_n (v := .ref 331) hm_135 rfl rfl rfl ?_
    refine ga_aload (v := .ref a20_) hm_135 rfl rfl rfl ?_
    refine ga_aload_n (v := .ref 331) hm_135 rfl rfl rfl ?_
    refine ga_getr (b := 332) hm_135 rfl sc_331 rfl ?_
    refine ga_iload_n (z := fm) hm_135 rfl rfl ?_
    refine ga_lald (z := fm) (w := F1 332 fm.toNat) hm_135 rfl sc_332 (by omega) (by omega) (by omega) (rfl) ?_
    refine gIl (nY := 3) (F := 0) (L := 0) (As := [.long (Int64.ofInt (F1 332 fm.toNat))]) (b := a20_) (rest := [.ref 331]) hm_135 rfl hm_147 rfl rfl (fl_ob n22_.1.1) rfl rfl rfl rfl rfl (by omega) (by omega) ?_
    intro f34_ l35_ h36_ h37_
    show fl_R xi_ms 147 f34_ l35_ 0 [(0, .ref a20_), (1, .long (Int64.ofInt (F1 332 fm.toNat)))] [] _ _
    refine ga_lload_n (z := F1 332 fm.toNat) hm_147 rfl rfl ?_
    refine ga_aload_n (v := .ref a20_) hm_147 rfl rfl rfl ?_
    have e38_ : F1 a20_ 4 = F a20_ 4 := (hf_F1 a20_ 4 (by first | exact fs_c rfl | exact (fs_n (by omega) (fs_n (by omega) (fs_n (by omega) rfl))))).trans (rfl)
    have b39_ : -9223372036854775808 ≤ F a20_ 4 ∧ F a20_ 4 ≤ 9223372036854775807 := gi_g hgi n22_.2.1.2.2.2.1
    refine ga_getl (z := F a20_ 4) hm_147 rfl n22_.1.1 rfl (e38_) ?_
    refine ga_ldcl (z := -1) hm_147 rfl (by decide) ?_
    refine ga_lx (z := (lxo (F a20_ 4) (-1))) hm_147 rfl rfl rfl (lop_e 2 _ _) (fun ⟨h40_, h41_⟩ => ?_)
    refine ga_lx (z := (lan (F1 332 fm.toNat) ((lxo (F a20_ 4) (-1))))) hm_147 rfl rfl rfl (lop_e 0 _ _) (fun ⟨h42_, h43_⟩ => ?_)
    refine ga_aload_n (v := .ref a20_) hm_147 rfl rfl rfl ?_
    have e44_ : F1 a20_ 5 = F a20_ 5 := (hf_F1 a20_ 5 (by first | exact fs_c rfl | exact (fs_n (by omega) (fs_n (by omega) (fs_n (by omega) rfl))))).trans (rfl)
    have b45_ : -9223372036854775808 ≤ F a20_ 5 ∧ F a20_ 5 ≤ 9223372036854775807 := gi_g hgi n22_.2.1.2.2.2.2.1
    refine ga_getl (z := F a20_ 5) hm_147 rfl n22_.1.1 rfl (e44_) ?_
    refine ga_lx (z := (lorr ((lan (F1 332 fm.toNat) ((lxo (F a20_ 4) (-1))))) (F a20_ 5))) hm_147 rfl rfl rfl (lop_e 1 _ _) (fun ⟨h46_, h47_⟩ => ?_)
    refine gr_l hm_147 rfl rfl ?_
    clear h36_ h37_ f34_ l35_
    refine ga_iload_n (z := fm) hm_135 rfl rfl ?_
    refine ga_iload_n (z := k) hm_135 rfl rfl ?_
    have b48_ : 0 ≤ F1 331 8 ∧ F1 331 8 ≤ 200 := gi_g hg_F1 rfl
    have e49_ : F1 331 12 = F 331 12 := (hf_F1 331 12 rfl).trans (rfl)
    refine gVv (nY := 7) (F := 2) (L := 51) (As := [.long (Int64.ofInt ((lorr ((lan (F1 332 fm.toNat) ((lxo (F a20_ 4) (-1))))) (F a20_ 5)))), .int (Int32.ofInt fm), .int (Int32.ofInt k)]) (b := 331) (rest := []) hm_135 rfl hm_130 rfl rfl (fl_ob sc_331) rfl rfl rfl rfl rfl (by omega) (by omega) (mc_130v hG F1 X hg_F1 ((lorr ((lan (F1 332 fm.toNat) ((lxo (F a20_ 4) (-1))))) (F a20_ 5))) (fm) (k) ((rsw P (F 331 9).toNat (F 331 12) fm.toNat k.toNat W).1) (⟨by omega, by omega⟩) (hl1) (⟨by omega, by omega⟩) (⟨by omega, by omega⟩) (hrw.1) (⟨by omega, by omega⟩)) (fun _ _ h => False.elim h) ?_
    rintro A1_ ⟨F55_, hA_, g56_, s57_, c51_, c52_, c53_, c54_⟩
    subst hA_
    have g58_ : fs [(331, 331, 8, 8), (331, 331, 10, 11), (332, 338, 0, 100000)] F F55_ := fs_tr g7_ s57_ rfl
    refine ga_inc (a := k) (c := k + 1) (lv2 := [(3, .int (Int32.ofInt (k + 1))), (4, .ref a20_), (0, .ref 331), (1, .int (Int32.ofInt fm)), (2, .int (Int32.ofInt pr))]) hm_135 rfl rfl (Nat.le_of_ble_eq_true rfl) rfl rfl ?_
    refine fl_goto hm_135 rfl ?_
    have b59_ : 0 ≤ F55_ 331 8 ∧ F55_ 331 8 ≤ 200 := gi_g g56_ rfl
    have e60_ : F55_ 120 3 = F 120 3 := (s57_ 120 3 rfl).trans (e8_)
    exact fl_R_sub (lv' := [(3, .int (Int32.ofInt (k + 1))), (0, .ref 331), (1, .int (Int32.ofInt fm)), (2, .int (Int32.ofInt pr))]) rfl rfl (ih3_ _ (by omega) (k + 1) F55_ rfl g56_ (fs_tr hf_F1 s57_ rfl) (⟨by omega, by omega⟩) (c51_) (by omega) (by omega) (by obtain ⟨T2_, d1_, d2_⟩ := c53_; rw [show (k + 1).toNat = k.toNat + 1 by omega]; exact rwS_y hrw hfl_ ((show F1 331 12 = F 331 12 from (hf_F1 331 12 (by first | exact fs_c rfl | exact (fs_n (by omega) (fs_n (by omega) (fs_n (by omega) rfl))))))) ((show F1 331 9 = F 331 9 from (hf_F1 331 9 (by first | exact fs_c rfl | exact (fs_n (by omega) (fs_n (by omega) (fs_n (by omega) rfl))))))) (by omega) (by rw [hP]; exact (way_c0 hfl_ (show ((k.toNat : Nat) : Int) < F 120 3 by omega) hpe).mpr ⟨by rw [← q23_]; omega, by have h9_ := c32_; rw [rwS_x hrw hfl_, hN_cg (F := F) (F' := F1) (fun j => (show F1 ((a20_ + 2)) j = F ((a20_ + 2)) j from (hf_F1 ((a20_ + 2)) j (by first | exact fs_c rfl | exact (fs_n (by omega) (fs_n (by omega) (fs_n (by omega) rfl))))))), q23_] at h9_; exact h9_⟩) (by rw [hP, nxs_c0 hfl_ (show ((k.toNat : Nat) : Int) < F 120 3 by omega)]; unfold aC; rw [Int.toNat_natCast, ← q23_, ← rwS_x hrw hfl_]) (by rw [hP]; show hN F1 123 _ ↔ hN F 123 _; rw [hN_cg (F := F) (F' := F1) (fun j => (show F1 (123) j = F (123) j from (hf_F1 (123) j (by first | exact fs_c rfl | exact (fs_n (by omega) (fs_n (by omega) (fs_n (by omega) rfl)))))))]) d1_ d2_ c54_ (fun d hd => sdu_cg (by omega) hd (fun r j hr => (show F1 (r) j = F (r) j from (hf_F1 (r) j (by first | exact fs_c rfl | exact (fs_n (by omega) (fs_n (by omega) (fs_n (by omega) rfl))))))))))
  exact L2_ _ (0) F rfl hgi fs_refl (⟨by omega, by omega⟩) (hli) (by omega) (by omega) (rwS_0 hT h10)
/- CheapPlanner$Search.goOn -/
abbrev pq_134v (G : Nat → Nat → Option Nat) (F : fl_N) (X : xi_H) (P : pp_T) (T : tb_T) (cp : Int) : Outcome → xi_H → Prop := gqv (fun A => ∃ F' : fl_N, fl_H sh_T G F' ++ X = A ∧ gi F' ∧ fs [(331, 331, 8, 8), (331, 331, 10, 11), (332, 338, 0, 100000)] F F' ∧ (li F') ∧ (F 331 8 ≤ F' 331 8) ∧ (lyS F F' P T T.length)) gqn
theorem mc_134v {G : Nat → Nat → Option Nat} (hG : gg G) (F : fl_N) (X : xi_H) (hgi : gi F) (P : pp_T) (T : tb_T) (cp : Int) (hli : li F) (hP : P = pC F) (hT : tS F T) (h10 : F 331 10 = 0) (h11 : F 331 11 = 0) (hcb : 0 ≤ F 331 12 ∧ F 331 12 ≤ 1000000) (hca : ∀ i : Nat, i < T.length → 0 ≤ ca T i ∧ ca T i ≤ 1000000) (hlc : lc P T cp (F 331 12)) (hdu : ∀ i : Nat, i < T.length → due P T cp i (F 334 i)) : fl_M xi_ms 134 4 101 [.ref 331] (fl_H sh_T G F ++ X) (pq_134v G F X P T cp) := by
  intro fr lo hfr hlo
  show fl_R xi_ms 134 fr lo 0 [(0, .ref 331)] [] _ _
  have hb8 : 0 ≤ F 331 8 ∧ F 331 8 ≤ 200 := gi_g hgi rfl
  have hT1 := hT.1
  have hb123 : 0 ≤ F 120 3 ∧ F 120 3 ≤ 41 := gi_g hgi rfl
  refine ga_aload_n (v := .ref 331) hm_134 rfl rfl rfl ?_
  have b1_ : 0 ≤ F 331 8 ∧ F 331 8 ≤ 200 := gi_g hgi rfl
  refine ga_geti (z := F 331 8) hm_134 rfl sc_331 rfl (rfl) ?_
  refine ga_istore_n (lv2 := [(1, .int (Int32.ofInt (F 331 8))), (0, .ref 331)]) hm_134 rfl (Nat.le_of_ble_eq_true rfl) rfl ?_
  refine fl_iconst hm_134 rfl ?_
  refine ga_istore_n (lv2 := [(2, .int (Int32.ofInt 0)), (1, .int (Int32.ofInt (F 331 8))), (0, .ref 331)]) hm_134 rfl (Nat.le_of_ble_eq_true rfl) rfl ?_
  have L3_ : ∀ (n2_ : Nat) (k : Int) (F1 : fl_N), (F 331 8 - k : Int).toNat = n2_ → (gi F1) → (fs [(331, 331, 8, 8), (331, 331, 10, 11), (332, 338, 0, 100000)] F F1) → (0 ≤ k ∧ k ≤ F 331 8) → (li F1) → (F 331 8 ≤ F1 331 8) → (lyS F F1 P T k.toNat) → fl_R xi_ms 134 fr lo 7 [(2, .int (Int32.ofInt k)), (1, .int (Int32.ofInt (F 331 8))), (0, .ref 331)] [] (fl_H sh_T G F1 ++ X) (pq_134v G F X P T cp) := by
    intro n2_
    induction n2_ using Nat.strongRecOn with
    | ind n2_ ih4_ =>
    intro k F1 hn5_ hg_F1 hf_F1 hk hl1 hg hly
    have g6_ : fs [(331, 331, 8, 8), (331, 331, 10, 11), (332, 338, 0, 100000)] F F1 := fs_tr fs_refl hf_F1 rfl
    refine ga_iload_n (z := k) hm_134 rfl rfl ?_
    refine ga_iload_n (z := F 331 8) hm_134 rfl rfl ?_
    refine fl_icmp_ge (a := k) (b := F 331 8) hm_134 rfl ⟨by omega, by omega⟩ ⟨by omega, by omega⟩ (fun h7_ => ?_) (fun h8_ => ?_)
    ·
      refine gr_v hm_134 rfl rfl ?_
      have b9_ : 0 ≤ F1 331 8 ∧ F1 331 8 ≤ 200 := gi_g hg_F1 rfl
      exact ⟨F1, rfl, hg_F1, g6_, (hl1), (by omega), (by rw [show T.length = k.toNat by omega]; exact hly)⟩
    refine ga_aload_n (v := .ref 331) hm_134 rfl rfl rfl ?_
    refine ga_getr (b := 334) hm_134 rfl sc_331 rfl ?_
    refine ga_iload_n (z := k) hm_134 rfl rfl ?_
    have b10_ : -2147483648 ≤ F1 334 k.toNat ∧ F1 334 k.toNat ≤ 2147483647 := gi_g hg_F1 rfl
    refine ga_iald (z := k) (w := F1 334 k.toNat) hm_134 rfl sc_334 (by omega) (by omega) (by omega) (rfl) ?_
    refine ga_aload_n (v := .ref 331) hm_134 rfl rfl rfl ?_
    have e11_ : F1 331 12 = F 331 12 := (hf_F1 331 12 rfl).trans (rfl)
    have b12_ : -2147483648 ≤ F 331 12 ∧ F 331 12 ≤ 2147483647 := gi_g hgi rfl
    refine ga_geti (z := F 331 12) hm_134 rfl sc_331 rfl (e11_) ?_
    refine fx_icmp_ne (a := F1 334 k.toNat) (b := F 331 12) hm_134 rfl ⟨by omega, by omega⟩ ⟨by omega, by omega⟩ (fun h13_ => ?_) (fun h14_ => ?_)
    ·
      refine ga_inc (a := k) (c := k + 1) (lv2 := [(2, .int (Int32.ofInt (k + 1))), (1, .int (Int32.ofInt (F 331 8))), (0, .ref 331)]) hm_134 rfl rfl (Nat.le_of_ble_eq_true rfl) rfl rfl ?_
      refine fl_goto hm_134 rfl ?_
      have b15_ : 0 ≤ F1 331 8 ∧ F1 331 8 ≤ 200 := gi_g hg_F1 rfl
      exact ih4_ _ (by omega) (k + 1) F1 rfl hg_F1 hf_F1 (⟨by omega, by omega⟩) (hl1) (by omega) (by rw [show (k + 1).toNat = k.toNat + 1 by omega]; exact lyS_n hly (by omega) hlc (hdu k.toNat (by omega)) (by omega))
    refine ga_aload_n (v := .ref 331) hm_134 rfl rfl rfl ?_
    refine ga_iload_n (z := k) hm_134 rfl rfl ?_
    refine ga_aload_n (v := .ref 331) hm_134 rfl rfl rfl ?_
    refine ga_geti (z := F 331 12) hm_134 rfl sc_331 rfl (e11_) ?_
    refine ga_aload_n (v := .ref 331) hm_134 rfl rfl rfl ?_
    refine ga_getr (b := 333) hm_134 rfl sc_331 rfl ?_
    refine ga_iload_n (z := k) hm_134 rfl rfl ?_
    have b16_ : -2147483648 ≤ F1 333 k.toNat ∧ F1 333 k.toNat ≤ 2147483647 := gi_g hg_F1 rfl
    refine ga_iald (z := k) (w := F1 333 k.toNat) hm_134 rfl sc_333 (by omega) (by omega) (by omega) (rfl) ?_
    have h333_ := ly_c hly (show k.toNat < T.length by omega)
    have hca_ := hca k.toNat (by omega)
    refine ga_isub (a := F 331 12) (b := F1 333 k.toNat) (c := F 331 12 - (F1 333 k.toNat)) hm_134 rfl (by omega) ?_
    have b17_ : 0 ≤ F1 331 8 ∧ F1 331 8 ≤ 200 := gi_g hg_F1 rfl
    refine gVv (nY := 5) (F := 3) (L := 77) (As := [.int (Int32.ofInt k), .int (Int32.ofInt (F 331 12 - (F1 333 k.toNat)))]) (b := 331) (rest := []) hm_134 rfl hm_135 rfl rfl (fl_ob sc_331) rfl rfl rfl rfl rfl (by omega) (by omega) (mc_135v hG F1 X hg_F1 (k) (F 331 12 - (F1 333 k.toNat)) (P) ((lyW P (F 331 9).toNat (F 331 12) T k.toNat)) (hl1) (⟨by omega, by omega⟩) (⟨by omega, by omega⟩) (hP.trans (pC_cg (by omega) (fun r j hr => (show F1 (r) j = F (r) j from (hf_F1 (r) j (by first | exact fs_c rfl | exact (fs_n (by omega) (fs_n (by omega) (fs_n (by omega) rfl)))))))).symm) (hly.1) (hly.2.1) (⟨by omega, by omega⟩) (by rw [ly_ca (by omega)]; omega) (by rw [ly_ca (by omega)]; exact hca k.toNat (by omega))) (fun _ _ h => False.elim h) ?_
    have e19_ : F1 120 3 = F 120 3 := (hf_F1 120 3 rfl).trans (rfl)
    have b20_ : 0 ≤ F 120 3 ∧ F 120 3 ≤ 41 := gi_g hgi rfl
    rintro A1_ ⟨F24_, hA_, g25_, s26_, c21_, c22_, c23_⟩
    subst hA_
    have g27_ : fs [(331, 331, 8, 8), (331, 331, 10, 11), (332, 338, 0, 100000)] F F24_ := fs_tr g6_ s26_ rfl
    try simp only [e19_] at c23_
    refine ga_inc (a := k) (c := k + 1) (lv2 := [(2, .int (Int32.ofInt (k + 1))), (1, .int (Int32.ofInt (F 331 8))), (0, .ref 331)]) hm_134 rfl rfl (Nat.le_of_ble_eq_true rfl) rfl rfl ?_
    refine fl_goto hm_134 rfl ?_
    have b28_ : 0 ≤ F24_ 331 8 ∧ F24_ 331 8 ≤ 200 := gi_g g25_ rfl
    exact ih4_ _ (by omega) (k + 1) F24_ rfl g25_ (fs_tr hf_F1 s26_ rfl) (⟨by omega, by omega⟩) (c21_) (by omega) (by rw [show (k + 1).toNat = k.toNat + 1 by omega]; exact lyS_y (pr := F 331 12 - (F1 333 k.toNat)) hly hP (pC_cg (by omega) (fun r j hr => (show F1 (r) j = F (r) j from (hf_F1 (r) j (by first | exact fs_c rfl | exact (fs_n (by omega) (fs_n (by omega) (fs_n (by omega) rfl)))))))) (by omega) ((show F1 331 12 = F 331 12 from (hf_F1 331 12 (by first | exact fs_c rfl | exact (fs_n (by omega) (fs_n (by omega) (fs_n (by omega) rfl))))))) ((show F1 331 9 = F 331 9 from (hf_F1 331 9 (by first | exact fs_c rfl | exact (fs_n (by omega) (fs_n (by omega) (fs_n (by omega) rfl))))))) ((show F1 120 3 = F 120 3 from (hf_F1 120 3 (by first | exact fs_c rfl | exact (fs_n (by omega) (fs_n (by omega) (fs_n (by omega) rfl))))))) (by have h9_ := ly_c hly (show k.toNat < T.length by omega); omega) (fun x p d hd => sdu_cg (by omega) hd (fun r j hr => (show F1 (r) j = F (r) j from (hf_F1 (r) j (by first | exact fs_c rfl | exact (fs_n (by omega) (fs_n (by omega) (fs_n (by omega) rfl)))))))) (by rw [show F1 120 3 = F 120 3 from (show F1 120 3 = F 120 3 from (hf_F1 120 3 (by first | exact fs_c rfl | exact (fs_n (by omega) (fs_n (by omega) (fs_n (by omega) rfl))))))]; exact c23_))
  exact L3_ _ (0) F rfl hgi fs_refl (⟨by omega, by omega⟩) (hli) (by omega) (lyS_0 hT h10 h11)

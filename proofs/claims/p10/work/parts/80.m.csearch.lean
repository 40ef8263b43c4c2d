/- CheapPlanner$Search.goOnFrom -/
abbrev pq_135v (G : Nat → Nat → Option Nat) (F : fl_N) (X : xi_H) (fm pr : Int) (P : pp_T) (W : tb_T × Bool) (V : List wy_T) (go : Option wy_T) (old : Nat) : Outcome → xi_H → Prop := gqv (fun A => ∃ F' : fl_N, fl_H sh_T G F' ++ X = A ∧ gi F' ∧ fs [(331, 331, 8, 8), (331, 331, 10, 11), (332, 338, 0, 100000)] F F' ∧ (li F') ∧ (F 331 8 ≤ F' 331 8) ∧ (rwE F F' P W fm.toNat (F 120 3).toNat pr) ∧ (rvS F' P (F 331 9).toNat (F 331 12) W V go old fm.toNat (F 120 3).toNat)) gqn
theorem mc_135v {G : Nat → Nat → Option Nat} (hG : gg G) (F : fl_N) (X : xi_H) (hgi : gi F) (fm pr : Int) (P : pp_T) (W : tb_T × Bool) (V : List wy_T) (go : Option wy_T) (old : Nat) (hli : li F) (hf : 0 ≤ fm ∧ fm < F 331 8) (hpr : -2147483648 ≤ pr ∧ pr ≤ 2147483647) (hP : P = pC F) (hT : tS F W.1) (h10 : F 331 10 = bi W.2) (hcb : 0 ≤ F 331 12 ∧ F 331 12 ≤ 1000000) (hpe : pr = F 331 12 - ca W.1 fm.toNat) (hcw : 0 ≤ ca W.1 fm.toNat ∧ ca W.1 fm.toNat ≤ 1000000) (hcv : chn (F 335) (F 336) (F 337) V (old : Int)) (hgv : gHc F V (old : Int) go) (hVl : V.length = W.1.length) (hds : dst W.1) (hfo : fm < (old : Int)) (hcf : cof W.1 old (F 331 12)) (hol : old ≤ W.1.length) : fl_M xi_ms 135 3 77 [.ref 331, .int (Int32.ofInt fm), .int (Int32.ofInt pr)] (fl_H sh_T G F ++ X) (pq_135v G F X fm pr P W V go old) := by
  intro fr lo hfr hlo
  show fl_R xi_ms 135 fr lo 0 [(0, .ref 331), (1, .int (Int32.ofInt fm)), (2, .int (Int32.ofInt pr))] [] _ _
  have hb8 : 0 ≤ F 331 8 ∧ F 331 8 ≤ 200 := gi_g hgi rfl
  have hT1 := hT.1
  have hfl_ : fm.toNat < W.1.length := by omega
  have hb9 : 0 ≤ F 331 9 ∧ F 331 9 ≤ 200 := gi_g hgi rfl
  have hb123 : 0 ≤ F 120 3 ∧ F 120 3 ≤ 41 := gi_g hgi rfl
  refine fl_iconst hm_135 rfl ?_
  refine ga_istore_n (lv2 := [(3, .int (Int32.ofInt 0)), (0, .ref 331), (1, .int (Int32.ofInt fm)), (2, .int (Int32.ofInt pr))]) hm_135 rfl (Nat.le_of_ble_eq_true rfl) rfl ?_
  have b4_ : 0 ≤ F 331 8 ∧ F 331 8 ≤ 200 := gi_g hgi rfl
  have b5_ : 0 ≤ F 120 3 ∧ F 120 3 ≤ 41 := gi_g hgi rfl
  have b6_ : -2147483648 ≤ F 331 12 ∧ F 331 12 ≤ 2147483647 := gi_g hgi rfl
  have b7_ : 0 ≤ F 331 9 ∧ F 331 9 ≤ 200 := gi_g hgi rfl
  have L2_ : ∀ (n1_ : Nat) (k : Int) (F1 : fl_N), (F1 120 3 - k : Int).toNat = n1_ → (gi F1) → (fs [(331, 331, 8, 8), (331, 331, 10, 11), (332, 338, 0, 100000)] F F1) → (0 ≤ k ∧ k ≤ 41) → (li F1) → (F 331 8 ≤ F1 331 8) → (k ≤ F 120 3) → (rwS F F1 P W fm.toNat k.toNat) → (rvS F1 P (F 331 9).toNat (F 331 12) W V go old fm.toNat k.toNat) → fl_R xi_ms 135 fr lo 2 [(3, .int (Int32.ofInt k)), (0, .ref 331), (1, .int (Int32.ofInt fm)), (2, .int (Int32.ofInt pr))] [] (fl_H sh_T G F1 ++ X) (pq_135v G F X fm pr P W V go old) := by
    intro n1_
    induction n1_ using Nat.strongRecOn with
    | ind n1_ ih3_ =>
    intro k F1 hn8_ hg_F1 hf_F1 hk hl1 hg hk2 hrw hrv
    have g9_ : fs [(331, 331, 8, 8), (331, 331, 10, 11), (332, 338, 0, 100000)] F F1 := fs_tr fs_refl hf_F1 rfl
    refine ga_iload_n (z := k) hm_135 rfl rfl ?_
    refine ga_aload_n (v := .ref 331) hm_135 rfl rfl rfl ?_
    refine ga_getr (b := 120) hm_135 rfl sc_331 rfl ?_
    have e10_ : F1 120 3 = F 120 3 := (hf_F1 120 3 rfl).trans (rfl)
    refine ga_geti (z := F 120 3) hm_135 rfl sc_120 rfl (e10_) ?_
    refine fl_icmp_ge (a := k) (b := F 120 3) hm_135 rfl ⟨by omega, by omega⟩ ⟨by omega, by omega⟩ (fun h11_ => ?_) (fun h12_ => ?_)
    ·
      refine ga_aload_n (v := .ref 331) hm_135 rfl rfl rfl ?_
      refine ga_iload_n (z := fm) hm_135 rfl rfl ?_
      refine ga_iload_n (z := pr) hm_135 rfl rfl ?_
      refine gVv (nY := 6) (F := 0) (L := 0) (As := [.int (Int32.ofInt fm), .int (Int32.ofInt pr)]) (b := 331) (rest := []) hm_135 rfl hm_141 rfl rfl (fl_ob sc_331) rfl rfl rfl rfl rfl (by omega) (by omega) (mc_141v hG F1 X hg_F1 (fm) (pr) (⟨by omega, by omega⟩) (⟨by omega, by omega⟩) (by have h9_ := hrw.1.2.2.1 fm.toNat (by have h8_ := hrw.1.1; have h7_ := hg; omega); rw [h9_, rsw_ca hfl_]; exact hcw)) (fun _ _ h => False.elim h) ?_
      rintro A1_ ⟨F16_, hA_, g17_, s18_, c14_, c15_⟩
      subst hA_
      have g19_ : fs [(331, 331, 8, 8), (331, 331, 10, 11), (332, 338, 0, 100000)] F F16_ := fs_tr g9_ s18_ rfl
      refine gr_v hm_135 rfl rfl ?_
      have e20_ : F16_ 331 8 = F1 331 8 := (s18_ 331 8 rfl).trans (rfl)
      have b21_ : 0 ≤ F1 331 8 ∧ F1 331 8 ≤ 200 := gi_g hg_F1 rfl
      exact ⟨F16_, rfl, g17_, g19_, (li_cg hl1 ((show F16_ 331 8 = F1 331 8 from (s18_ 331 8 (by first | exact fs_c rfl | exact (fs_n (by omega) rfl))))) ((show F16_ 331 11 = F1 331 11 from (s18_ 331 11 (by first | exact fs_c rfl | exact (fs_n (by omega) rfl))))) (fun i => (show F16_ 335 i = F1 335 i from (s18_ 335 i (by first | exact fs_c rfl | exact (fs_n (by omega) rfl)))))), (by omega), (by have hk3_ : k.toNat = (F 120 3).toNat := (by omega); rw [hk3_] at hrw; exact rwE_of hrw hfl_ (ts_cg hrw.1 ((show F16_ 331 8 = F1 331 8 from (s18_ 331 8 (by first | exact fs_c rfl | exact (fs_n (by omega) rfl))))) (fun j => (show F16_ 332 j = F1 332 j from (s18_ 332 j (by first | exact fs_c rfl | exact (fs_n (by omega) rfl))))) (fun j => (show F16_ 333 j = F1 333 j from (s18_ 333 j (by first | exact fs_c rfl | exact (fs_n (by omega) rfl))))) (fun j => (show F16_ 338 j = F1 338 j from (s18_ 338 j (by first | exact fs_c rfl | exact (fs_n (by omega) rfl)))))) ((show F16_ 331 10 = F1 331 10 from (s18_ 331 10 (by first | exact fs_c rfl | exact (fs_n (by omega) rfl))))) ((show F16_ 331 11 = F1 331 11 from (s18_ 331 11 (by first | exact fs_c rfl | exact (fs_n (by omega) rfl))))) (fun j hj => Eq.trans (rfl) (c15_ j hj)) (by have h9_ := c14_; have h8_ := hrw.1.2.2.1 fm.toNat (by have h7_ := hrw.1.1; omega); rw [rsw_ca hfl_] at h8_; rw [h8_] at h9_; exact sdu_cg (by omega) h9_ (fun r j hr => (show F1 (r) j = F (r) j from (hf_F1 (r) j (by first | exact fs_c rfl | exact (fs_n (by omega) (fs_n (by omega) (fs_n (by omega) rfl))))))))), (by have hk3_ : k.toNat = (F 120 3).toNat := (by omega); rw [hk3_] at hrv; exact rvS_cg hrv (fun r_ k_ hr_ => (show F16_ (r_) k_ = F1 (r_) k_ from (s18_ (r_) k_ (by first | exact fs_c rfl | exact (fs_n (by omega) rfl))))) ((show F16_ 331 11 = F1 331 11 from (s18_ 331 11 (by first | exact fs_c rfl | exact (fs_n (by omega) rfl))))))⟩
    refine ga_aload_n (v := .ref 331) hm_135 rfl rfl rfl ?_
    refine ga_getr (b := 120) hm_135 rfl sc_331 rfl ?_
    refine ga_getr (b := 122) hm_135 rfl sc_120 rfl ?_
    refine ga_iload_n (z := k) hm_135 rfl rfl ?_
    obtain ⟨a22_, r23_, n24_, q25_⟩ := ra_122 (k).toNat (by omega)
    refine fl_aald (z := k) (q := a22_) hm_135 rfl sc_122 (hG _ _ _ sc_122) rfl (by omega) (by simp only [List.length_cons, List.length_nil]; omega) (by simp only [List.length_cons, List.length_nil]; omega) r23_ ?_
    refine ga_astore (lv2 := [(4, .ref a22_), (3, .int (Int32.ofInt k)), (0, .ref 331), (1, .int (Int32.ofInt fm)), (2, .int (Int32.ofInt pr))]) hm_135 rfl (Nat.le_of_ble_eq_true rfl) rfl ?_
    refine ga_aload (v := .ref a22_) hm_135 rfl rfl rfl ?_
    have e26_ : F1 a22_ 2 = F a22_ 2 := (hf_F1 a22_ 2 (by first | exact fs_c rfl | exact (fs_n (by omega) (fs_n (by omega) (fs_n (by omega) rfl))))).trans (rfl)
    have b27_ : 0 ≤ F a22_ 2 ∧ F a22_ 2 ≤ 999 := gi_g hgi n24_.2.1.2.2.1
    refine ga_geti (z := F a22_ 2) hm_135 rfl n24_.1.1 rfl (e26_) ?_
    refine ga_iload_n (z := pr) hm_135 rfl rfl ?_
    refine fx_icmp_ne (a := F a22_ 2) (b := pr) hm_135 rfl ⟨by omega, by omega⟩ ⟨by omega, by omega⟩ (fun h28_ => ?_) (fun h29_ => ?_)
    ·
      refine ga_inc (a := k) (c := k + 1) (lv2 := [(3, .int (Int32.ofInt (k + 1))), (4, .ref a22_), (0, .ref 331), (1, .int (Int32.ofInt fm)), (2, .int (Int32.ofInt pr))]) hm_135 rfl rfl (Nat.le_of_ble_eq_true rfl) rfl rfl ?_
      refine fl_goto hm_135 rfl ?_
      have b30_ : 0 ≤ F1 331 8 ∧ F1 331 8 ≤ 200 := gi_g hg_F1 rfl
      exact fl_R_sub (lv' := [(3, .int (Int32.ofInt (k + 1))), (0, .ref 331), (1, .int (Int32.ofInt fm)), (2, .int (Int32.ofInt pr))]) rfl rfl (ih3_ _ (by omega) (k + 1) F1 rfl hg_F1 hf_F1 (⟨by omega, by omega⟩) (hl1) (by omega) (by omega) (by rw [show (k + 1).toNat = k.toNat + 1 by omega]; exact rwS_n hrw hfl_ (by rw [hP]; intro h9_; have h8_ := (way_c0 hfl_ (show ((k.toNat : Nat) : Int) < F 120 3 by omega) hpe).mp h9_; rw [← q25_] at h8_; omega)) (by rw [show (k + 1).toNat = k.toNat + 1 by omega]; exact rvS_n hrv hfl_ (by rw [hP]; intro h9_; have h8_ := (way_c0 hfl_ (show ((k.toNat : Nat) : Int) < F 120 3 by omega) hpe).mp h9_; rw [← q25_] at h8_; omega)))
    refine ga_aload (v := .ref a22_) hm_135 rfl rfl rfl ?_
    refine ga_getr (b := a22_ + 2) hm_135 rfl n24_.1.1 rfl ?_
    refine ga_aload_n (v := .ref 331) hm_135 rfl rfl rfl ?_
    refine ga_getr (b := 332) hm_135 rfl sc_331 rfl ?_
    refine ga_iload_n (z := fm) hm_135 rfl rfl ?_
    have b31_ : -9223372036854775808 ≤ F1 332 fm.toNat ∧ F1 332 fm.toNat ≤ 9223372036854775807 := gi_g hg_F1 rfl
    refine ga_lald (z := fm) (w := F1 332 fm.toNat) hm_135 rfl sc_332 (by omega) (by omega) (by omega) (rfl) ?_
    refine gVi (nY := 3) (F := 0) (L := 0) (As := [.long (Int64.ofInt (F1 332 fm.toNat))]) (b := a22_ + 2) (rest := []) hm_135 rfl hm_115 rfl rfl (fl_ob n24_.1.2.2.1) rfl rfl rfl rfl rfl (by omega) (by omega) (mc_115v hG F1 X hg_F1 (a22_ + 2) (F1 332 fm.toNat) (nd_sp n24_) (⟨by omega, by omega⟩)) (fun _ _ h => False.elim h) ?_
    rintro z32_ A1_ (⟨hA_, hz_, c33_⟩ | ⟨hA_, hz_, c34_⟩)
    ·
      subst hA_
      subst hz_
      refine fl_if_eq hm_135 rfl ⟨by omega, by omega⟩ (fun _ => ?_) (fun h => absurd (by omega) h)
      refine ga_inc (a := k) (c := k + 1) (lv2 := [(3, .int (Int32.ofInt (k + 1))), (4, .ref a22_), (0, .ref 331), (1, .int (Int32.ofInt fm)), (2, .int (Int32.ofInt pr))]) hm_135 rfl rfl (Nat.le_of_ble_eq_true rfl) rfl rfl ?_
      refine fl_goto hm_135 rfl ?_
      have b35_ : 0 ≤ F1 331 8 ∧ F1 331 8 ≤ 200 := gi_g hg_F1 rfl
      exact fl_R_sub (lv' := [(3, .int (Int32.ofInt (k + 1))), (0, .ref 331), (1, .int (Int32.ofInt fm)), (2, .int (Int32.ofInt pr))]) rfl rfl (ih3_ _ (by omega) (k + 1) F1 rfl hg_F1 hf_F1 (⟨by omega, by omega⟩) (hl1) (by omega) (by omega) (by rw [show (k + 1).toNat = k.toNat + 1 by omega]; exact rwS_n hrw hfl_ (by rw [hP]; intro h9_; have h8_ := (way_c0 hfl_ (show ((k.toNat : Nat) : Int) < F 120 3 by omega) hpe).mp h9_; exact c33_ (by rw [rwS_x hrw hfl_, hN_cg (F := F) (F' := F1) (fun j => (show F1 ((a22_ + 2)) j = F ((a22_ + 2)) j from (hf_F1 ((a22_ + 2)) j (by first | exact fs_c rfl | exact (fs_n (by omega) (fs_n (by omega) (fs_n (by omega) rfl))))))), q25_]; exact h8_.2))) (by rw [show (k + 1).toNat = k.toNat + 1 by omega]; exact rvS_n hrv hfl_ (by rw [hP]; intro h9_; have h8_ := (way_c0 hfl_ (show ((k.toNat : Nat) : Int) < F 120 3 by omega) hpe).mp h9_; exact c33_ (by rw [rwS_x hrw hfl_, hN_cg (F := F) (F' := F1) (fun j => (show F1 ((a22_ + 2)) j = F ((a22_ + 2)) j from (hf_F1 ((a22_ + 2)) j (by first | exact fs_c rfl | exact (fs_n (by omega) (fs_n (by omega) (fs_n (by omega) rfl))))))), q25_]; exact h8_.2))))
    subst hA_
    subst hz_
    refine fl_if_eq hm_135 rfl ⟨by omega, by omega⟩ (fun h => absurd h (by omega)) (fun _ => ?_)
    refine ga_aload_n (v := .ref 331) hm_135 rfl rfl rfl ?_
    refine ga_aload (v := .ref a22_) hm_135 rfl rfl rfl ?_
    refine ga_aload_n (v := .ref 331) hm_135 rfl rfl rfl ?_
    refine ga_getr (b := 332) hm_135 rfl sc_331 rfl ?_
    refine ga_iload_n (z := fm) hm_135 rfl rfl ?_
    refine ga_lald (z := fm) (w := F1 332 fm.toNat) hm_135 rfl sc_332 (by omega) (by omega) (by omega) (rfl) ?_
    refine gIl (nY := 3) (F := 0) (L := 0) (As := [.long (Int64.ofInt (F1 332 fm.toNat))]) (b := a22_) (rest := [.ref 331]) hm_135 rfl hm_147 rfl rfl (fl_ob n24_.1.1) rfl rfl rfl rfl rfl (by omega) (by omega) ?_
    intro f36_ l37_ h38_ h39_
    show fl_R xi_ms 147 f36_ l37_ 0 [(0, .ref a22_), (1, .long (Int64.ofInt (F1 332 fm.toNat)))] [] _ _
    refine ga_lload_n (z := F1 332 fm.toNat) hm_147 rfl rfl ?_
    refine ga_aload_n (v := .ref a22_) hm_147 rfl rfl rfl ?_
    have e40_ : F1 a22_ 4 = F a22_ 4 := (hf_F1 a22_ 4 (by first | exact fs_c rfl | exact (fs_n (by omega) (fs_n (by omega) (fs_n (by omega) rfl))))).trans (rfl)
    have b41_ : -9223372036854775808 ≤ F a22_ 4 ∧ F a22_ 4 ≤ 9223372036854775807 := gi_g hgi n24_.2.1.2.2.2.1
    refine ga_getl (z := F a22_ 4) hm_147 rfl n24_.1.1 rfl (e40_) ?_
    refine ga_ldcl (z := -1) hm_147 rfl (by decide) ?_
    refine ga_lx (z := (lxo (F a22_ 4) (-1))) hm_147 rfl rfl rfl (lop_e 2 _ _) (fun ⟨h42_, h43_⟩ => ?_)
    refine ga_lx (z := (lan (F1 332 fm.toNat) ((lxo (F a22_ 4) (-1))))) hm_147 rfl rfl rfl (lop_e 0 _ _) (fun ⟨h44_, h45_⟩ => ?_)
    refine ga_aload_n (v := .ref a22_) hm_147 rfl rfl rfl ?_
    have e46_ : F1 a22_ 5 = F a22_ 5 := (hf_F1 a22_ 5 (by first | exact fs_c rfl | exact (fs_n (by omega) (fs_n (by omega) (fs_n (by omega) rfl))))).trans (rfl)
    have b47_ : -9223372036854775808 ≤ F a22_ 5 ∧ F a22_ 5 ≤ 9223372036854775807 := gi_g hgi n24_.2.1.2.2.2.2.1
    refine ga_getl (z := F a22_ 5) hm_147 rfl n24_.1.1 rfl (e46_) ?_
    refine ga_lx (z := (lorr ((lan (F1 332 fm.toNat) ((lxo (F a22_ 4) (-1))))) (F a22_ 5))) hm_147 rfl rfl rfl (lop_e 1 _ _) (fun ⟨h48_, h49_⟩ => ?_)
    refine gr_l hm_147 rfl rfl ?_
    clear h38_ h39_ f36_ l37_
    refine ga_iload_n (z := fm) hm_135 rfl rfl ?_
    refine ga_iload_n (z := k) hm_135 rfl rfl ?_
    have b50_ : 0 ≤ F1 331 8 ∧ F1 331 8 ≤ 200 := gi_g hg_F1 rfl
    have e51_ : F1 331 12 = F 331 12 := (hf_F1 331 12 rfl).trans (rfl)
    refine gVv (nY := 7) (F := 2) (L := 51) (As := [.long (Int64.ofInt ((lorr ((lan (F1 332 fm.toNat) ((lxo (F a22_ 4) (-1))))) (F a22_ 5)))), .int (Int32.ofInt fm), .int (Int32.ofInt k)]) (b := 331) (rest := []) hm_135 rfl hm_130 rfl rfl (fl_ob sc_331) rfl rfl rfl rfl rfl (by omega) (by omega) (mc_130v hG F1 X hg_F1 ((lorr ((lan (F1 332 fm.toNat) ((lxo (F a22_ 4) (-1))))) (F a22_ 5))) (fm) (k) ((rsw P (F 331 9).toNat (F 331 12) fm.toNat k.toNat W).1) ((rvZ P (F 331 9).toNat (F 331 12) old fm.toNat k.toNat W V).2) ((rvG P (F 331 12) W.1 V fm.toNat k.toNat go)) (old) (⟨by omega, by omega⟩) (hl1) (⟨by omega, by omega⟩) (⟨by omega, by omega⟩) (hrw.1) (⟨by omega, by omega⟩) (hrv.1) (hrv.2) (rvZ_len hVl) (rsw_dst hds) (hfo) (by rw [show F1 331 12 = F 331 12 from (show F1 331 12 = F 331 12 from (hf_F1 331 12 (by first | exact fs_c rfl | exact (fs_n (by omega) (fs_n (by omega) (fs_n (by omega) rfl))))))]; exact (rsw_cof hcf hol).1) ((rsw_cof hcf hol).2)) (fun _ _ h => False.elim h) ?_
    rintro A1_ ⟨F58_, hA_, g59_, s60_, c53_, c54_, c55_, c56_, c57_⟩
    subst hA_
    have g61_ : fs [(331, 331, 8, 8), (331, 331, 10, 11), (332, 338, 0, 100000)] F F58_ := fs_tr g9_ s60_ rfl
    refine ga_inc (a := k) (c := k + 1) (lv2 := [(3, .int (Int32.ofInt (k + 1))), (4, .ref a22_), (0, .ref 331), (1, .int (Int32.ofInt fm)), (2, .int (Int32.ofInt pr))]) hm_135 rfl rfl (Nat.le_of_ble_eq_true rfl) rfl rfl ?_
    refine fl_goto hm_135 rfl ?_
    have b62_ : 0 ≤ F58_ 331 8 ∧ F58_ 331 8 ≤ 200 := gi_g g59_ rfl
    have e63_ : F58_ 120 3 = F 120 3 := (s60_ 120 3 rfl).trans (e10_)
    exact fl_R_sub (lv' := [(3, .int (Int32.ofInt (k + 1))), (0, .ref 331), (1, .int (Int32.ofInt fm)), (2, .int (Int32.ofInt pr))]) rfl rfl (ih3_ _ (by omega) (k + 1) F58_ rfl g59_ (fs_tr hf_F1 s60_ rfl) (⟨by omega, by omega⟩) (c53_) (by omega) (by omega) (by obtain ⟨T2_, d1_, d2_⟩ := c55_; rw [show (k + 1).toNat = k.toNat + 1 by omega]; exact rwS_y hrw hfl_ ((show F1 331 12 = F 331 12 from (hf_F1 331 12 (by first | exact fs_c rfl | exact (fs_n (by omega) (fs_n (by omega) (fs_n (by omega) rfl))))))) ((show F1 331 9 = F 331 9 from (hf_F1 331 9 (by first | exact fs_c rfl | exact (fs_n (by omega) (fs_n (by omega) (fs_n (by omega) rfl))))))) (by omega) (by rw [hP]; exact (way_c0 hfl_ (show ((k.toNat : Nat) : Int) < F 120 3 by omega) hpe).mpr ⟨by rw [← q25_]; omega, by have h9_ := c34_; rw [rwS_x hrw hfl_, hN_cg (F := F) (F' := F1) (fun j => (show F1 ((a22_ + 2)) j = F ((a22_ + 2)) j from (hf_F1 ((a22_ + 2)) j (by first | exact fs_c rfl | exact (fs_n (by omega) (fs_n (by omega) (fs_n (by omega) rfl))))))), q25_] at h9_; exact h9_⟩) (by rw [hP, nxs_c0 hfl_ (show ((k.toNat : Nat) : Int) < F 120 3 by omega)]; unfold aC; rw [Int.toNat_natCast, ← q25_, ← rwS_x hrw hfl_]) (by rw [hP]; show hN F1 123 _ ↔ hN F 123 _; rw [hN_cg (F := F) (F' := F1) (fun j => (show F1 (123) j = F (123) j from (hf_F1 (123) j (by first | exact fs_c rfl | exact (fs_n (by omega) (fs_n (by omega) (fs_n (by omega) rfl)))))))]) d1_ d2_ c56_ (fun d hd => sdu_cg (by omega) hd (fun r j hr => (show F1 (r) j = F (r) j from (hf_F1 (r) j (by first | exact fs_c rfl | exact (fs_n (by omega) (fs_n (by omega) (fs_n (by omega) rfl))))))))) (by rw [show (k + 1).toNat = k.toNat + 1 by omega]; exact rvS_y (F1 := F1) ((show F1 331 9 = F 331 9 from (hf_F1 331 9 (by first | exact fs_c rfl | exact (fs_n (by omega) (fs_n (by omega) (fs_n (by omega) rfl))))))) (by omega) rfl hfl_ (by omega) (by omega) (by rw [hP]; exact (way_c0 hfl_ (show ((k.toNat : Nat) : Int) < F 120 3 by omega) hpe).mpr ⟨by rw [← q25_]; omega, by have h9_ := c34_; rw [rwS_x hrw hfl_, hN_cg (F := F) (F' := F1) (fun j => (show F1 ((a22_ + 2)) j = F ((a22_ + 2)) j from (hf_F1 ((a22_ + 2)) j (by first | exact fs_c rfl | exact (fs_n (by omega) (fs_n (by omega) (fs_n (by omega) rfl))))))), q25_] at h9_; exact h9_⟩) (by rw [hP, nxs_c0 hfl_ (show ((k.toNat : Nat) : Int) < F 120 3 by omega)]; unfold aC; rw [Int.toNat_natCast, ← q25_, ← rwS_x hrw hfl_]) (by rw [hP]; show hN F1 123 _ ↔ hN F 123 _; rw [hN_cg (F := F) (F' := F1) (fun j => (show F1 (123) j = F (123) j from (hf_F1 (123) j (by first | exact fs_c rfl | exact (fs_n (by omega) (fs_n (by omega) (fs_n (by omega) rfl)))))))]) (show k = ((k.toNat : Nat) : Int) by omega) c57_))
  exact L2_ _ (0) F rfl hgi fs_refl (⟨by omega, by omega⟩) (hli) (by omega) (by omega) (rwS_0 hT h10) (rvS_0 hcv hgv)
/- CheapPlanner$Search.goOn -/
abbrev pq_134v (G : Nat → Nat → Option Nat) (F : fl_N) (X : xi_H) (P : pp_T) (T : tb_T) (cp : Int) (V : List wy_T) : Outcome → xi_H → Prop := gqv (fun A => ∃ F' : fl_N, fl_H sh_T G F' ++ X = A ∧ gi F' ∧ fs [(331, 331, 8, 8), (331, 331, 10, 11), (332, 338, 0, 100000)] F F' ∧ (li F') ∧ (F 331 8 ≤ F' 331 8) ∧ (lyS F F' P T T.length) ∧ (lvS F' P (F 331 9).toNat (F 331 12) T V T.length)) gqn
theorem mc_134v {G : Nat → Nat → Option Nat} (hG : gg G) (F : fl_N) (X : xi_H) (hgi : gi F) (P : pp_T) (T : tb_T) (cp : Int) (V : List wy_T) (hli : li F) (hP : P = pC F) (hT : tS F T) (h10 : F 331 10 = 0) (h11 : F 331 11 = 0) (hcb : 0 ≤ F 331 12 ∧ F 331 12 ≤ 1000000) (hca : ∀ i : Nat, i < T.length → 0 ≤ ca T i ∧ ca T i ≤ 1000000) (hlc : lc P T cp (F 331 12)) (hdu : ∀ i : Nat, i < T.length → due P T cp i (F 334 i)) (hcv : chn (F 335) (F 336) (F 337) V (T.length : Int)) (h5 : F 335 200 = 2147483647) (hVl : V.length = T.length) (hds : dst T) (hlt : ∀ j : Nat, j < T.length → ca T j < F 331 12) : fl_M xi_ms 134 4 101 [.ref 331] (fl_H sh_T G F ++ X) (pq_134v G F X P T cp V) := by
  intro fr lo hfr hlo
  show fl_R xi_ms 134 fr lo 0 [(0, .ref 331)] [] _ _
  have hb8 : 0 ≤ F 331 8 ∧ F 331 8 ≤ 200 := gi_g hgi rfl
  have hT1 := hT.1
  have hb123 : 0 ≤ F 120 3 ∧ F 120 3 ≤ 41 := gi_g hgi rfl
  refine ga_aload_n (v := .ref 331) hm_134 rfl rfl rfl ?_
  have b1_ : 0 ≤ F 331 8 ∧ F 331 8 ≤ 200 := gi_g hgi rfl
  refine ga_geti (z := F 331 8) hm_134 rfl sc_331 rfl (rfl) ?_
  refine ga_istore_n (lv2 := [(1, .int (Int32.ofInt (F 331 8))), (0, .ref 331)]) hm_134 rfl (Nat.le_of_ble_eq_true rfl) rfl ?_
  refine fl_iconst hm_134 rfl ?_
  refine ga_istore_n (lv2 := [(2, .int (Int32.ofInt 0)), (1, .int (Int32.ofInt (F 331 8))), (0, .ref 331)]) hm_134 rfl (Nat.le_of_ble_eq_true rfl) rfl ?_
  have b5_ : -2147483648 ≤ F 331 12 ∧ F 331 12 ≤ 2147483647 := gi_g hgi rfl
  have b6_ : 0 ≤ F 331 9 ∧ F 331 9 ≤ 200 := gi_g hgi rfl
  have L3_ : ∀ (n2_ : Nat) (k : Int) (F1 : fl_N), (F 331 8 - k : Int).toNat = n2_ → (gi F1) → (fs [(331, 331, 8, 8), (331, 331, 10, 11), (332, 338, 0, 100000)] F F1) → (0 ≤ k ∧ k ≤ F 331 8) → (li F1) → (F 331 8 ≤ F1 331 8) → (lyS F F1 P T k.toNat) → (lvS F1 P (F 331 9).toNat (F 331 12) T V k.toNat) → fl_R xi_ms 134 fr lo 7 [(2, .int (Int32.ofInt k)), (1, .int (Int32.ofInt (F 331 8))), (0, .ref 331)] [] (fl_H sh_T G F1 ++ X) (pq_134v G F X P T cp V) := by
    intro n2_
    induction n2_ using Nat.strongRecOn with
    | ind n2_ ih4_ =>
    intro k F1 hn7_ hg_F1 hf_F1 hk hl1 hg hly hlv
    have g8_ : fs [(331, 331, 8, 8), (331, 331, 10, 11), (332, 338, 0, 100000)] F F1 := fs_tr fs_refl hf_F1 rfl
    refine ga_iload_n (z := k) hm_134 rfl rfl ?_
    refine ga_iload_n (z := F 331 8) hm_134 rfl rfl ?_
    refine fl_icmp_ge (a := k) (b := F 331 8) hm_134 rfl ⟨by omega, by omega⟩ ⟨by omega, by omega⟩ (fun h9_ => ?_) (fun h10_ => ?_)
    ·
      refine gr_v hm_134 rfl rfl ?_
      have b11_ : 0 ≤ F1 331 8 ∧ F1 331 8 ≤ 200 := gi_g hg_F1 rfl
      exact ⟨F1, rfl, hg_F1, g8_, (hl1), (by omega), (by rw [show T.length = k.toNat by omega]; exact hly), (by have hk3_ : k.toNat = T.length := (by omega); rw [hk3_] at hlv; exact hlv)⟩
    refine ga_aload_n (v := .ref 331) hm_134 rfl rfl rfl ?_
    refine ga_getr (b := 334) hm_134 rfl sc_331 rfl ?_
    refine ga_iload_n (z := k) hm_134 rfl rfl ?_
    have b12_ : -2147483648 ≤ F1 334 k.toNat ∧ F1 334 k.toNat ≤ 2147483647 := gi_g hg_F1 rfl
    refine ga_iald (z := k) (w := F1 334 k.toNat) hm_134 rfl sc_334 (by omega) (by omega) (by omega) (rfl) ?_
    refine ga_aload_n (v := .ref 331) hm_134 rfl rfl rfl ?_
    have e13_ : F1 331 12 = F 331 12 := (hf_F1 331 12 rfl).trans (rfl)
    refine ga_geti (z := F 331 12) hm_134 rfl sc_331 rfl (e13_) ?_
    refine fx_icmp_ne (a := F1 334 k.toNat) (b := F 331 12) hm_134 rfl ⟨by omega, by omega⟩ ⟨by omega, by omega⟩ (fun h14_ => ?_) (fun h15_ => ?_)
    ·
      refine ga_inc (a := k) (c := k + 1) (lv2 := [(2, .int (Int32.ofInt (k + 1))), (1, .int (Int32.ofInt (F 331 8))), (0, .ref 331)]) hm_134 rfl rfl (Nat.le_of_ble_eq_true rfl) rfl rfl ?_
      refine fl_goto hm_134 rfl ?_
      have b16_ : 0 ≤ F1 331 8 ∧ F1 331 8 ≤ 200 := gi_g hg_F1 rfl
      exact ih4_ _ (by omega) (k + 1) F1 rfl hg_F1 hf_F1 (⟨by omega, by omega⟩) (hl1) (by omega) (by rw [show (k + 1).toNat = k.toNat + 1 by omega]; exact lyS_n hly (by omega) hlc (hdu k.toNat (by omega)) (by omega)) (by rw [show (k + 1).toNat = k.toNat + 1 by omega]; exact lvS_n hlv (by omega) (row_no hlc (by omega) (hdu k.toNat (by omega)) (by have h9_ := hly.2.2.2.2.1 k.toNat (Nat.le_refl _) (by omega); omega)))
    refine ga_aload_n (v := .ref 331) hm_134 rfl rfl rfl ?_
    refine ga_iload_n (z := k) hm_134 rfl rfl ?_
    refine ga_aload_n (v := .ref 331) hm_134 rfl rfl rfl ?_
    refine ga_geti (z := F 331 12) hm_134 rfl sc_331 rfl (e13_) ?_
    refine ga_aload_n (v := .ref 331) hm_134 rfl rfl rfl ?_
    refine ga_getr (b := 333) hm_134 rfl sc_331 rfl ?_
    refine ga_iload_n (z := k) hm_134 rfl rfl ?_
    have b17_ : -2147483648 ≤ F1 333 k.toNat ∧ F1 333 k.toNat ≤ 2147483647 := gi_g hg_F1 rfl
    refine ga_iald (z := k) (w := F1 333 k.toNat) hm_134 rfl sc_333 (by omega) (by omega) (by omega) (rfl) ?_
    have h333_ := ly_c hly (show k.toNat < T.length by omega)
    have hca_ := hca k.toNat (by omega)
    refine ga_isub (a := F 331 12) (b := F1 333 k.toNat) (c := F 331 12 - (F1 333 k.toNat)) hm_134 rfl (by omega) ?_
    have b18_ : 0 ≤ F1 331 8 ∧ F1 331 8 ≤ 200 := gi_g hg_F1 rfl
    refine gVv (nY := 5) (F := 3) (L := 77) (As := [.int (Int32.ofInt k), .int (Int32.ofInt (F 331 12 - (F1 333 k.toNat)))]) (b := 331) (rest := []) hm_134 rfl hm_135 rfl rfl (fl_ob sc_331) rfl rfl rfl rfl rfl (by omega) (by omega) (mc_135v hG F1 X hg_F1 (k) (F 331 12 - (F1 333 k.toNat)) (P) ((lyW P (F 331 9).toNat (F 331 12) T k.toNat)) ((gZ P (F 331 9).toNat (F 331 12) T V k.toNat 0).2) ((gvW P (F 331 12) T V k.toNat 0)) (T.length) (hl1) (⟨by omega, by omega⟩) (⟨by omega, by omega⟩) (hP.trans (pC_cg (by omega) (fun r j hr => (show F1 (r) j = F (r) j from (hf_F1 (r) j (by first | exact fs_c rfl | exact (fs_n (by omega) (fs_n (by omega) (fs_n (by omega) rfl)))))))).symm) (hly.1) (hly.2.1) (⟨by omega, by omega⟩) (by rw [ly_ca (by omega)]; omega) (by rw [ly_ca (by omega)]; exact hca k.toNat (by omega)) (hlv.1) (hlv.2) (gZ_len hVl) (lyW_dst hds) (by omega) (by rw [show F1 331 12 = F 331 12 from (show F1 331 12 = F 331 12 from (hf_F1 331 12 (by first | exact fs_c rfl | exact (fs_n (by omega) (fs_n (by omega) (fs_n (by omega) rfl))))))]; exact (lyW_cof hlt).1) ((lyW_cof hlt).2)) (fun _ _ h => False.elim h) ?_
    have e20_ : F1 120 3 = F 120 3 := (hf_F1 120 3 rfl).trans (rfl)
    have b21_ : 0 ≤ F 120 3 ∧ F 120 3 ≤ 41 := gi_g hgi rfl
    have e22_ : F1 331 9 = F 331 9 := (hf_F1 331 9 rfl).trans (rfl)
    rintro A1_ ⟨F27_, hA_, g28_, s29_, c23_, c24_, c25_, c26_⟩
    subst hA_
    have g30_ : fs [(331, 331, 8, 8), (331, 331, 10, 11), (332, 338, 0, 100000)] F F27_ := fs_tr g8_ s29_ rfl
    try simp only [e20_] at c25_
    try simp only [e13_, e20_, e22_] at c26_
    refine ga_inc (a := k) (c := k + 1) (lv2 := [(2, .int (Int32.ofInt (k + 1))), (1, .int (Int32.ofInt (F 331 8))), (0, .ref 331)]) hm_134 rfl rfl (Nat.le_of_ble_eq_true rfl) rfl rfl ?_
    refine fl_goto hm_134 rfl ?_
    have b31_ : 0 ≤ F27_ 331 8 ∧ F27_ 331 8 ≤ 200 := gi_g g28_ rfl
    exact ih4_ _ (by omega) (k + 1) F27_ rfl g28_ (fs_tr hf_F1 s29_ rfl) (⟨by omega, by omega⟩) (c23_) (by omega) (by rw [show (k + 1).toNat = k.toNat + 1 by omega]; exact lyS_y (pr := F 331 12 - (F1 333 k.toNat)) hly hP (pC_cg (by omega) (fun r j hr => (show F1 (r) j = F (r) j from (hf_F1 (r) j (by first | exact fs_c rfl | exact (fs_n (by omega) (fs_n (by omega) (fs_n (by omega) rfl)))))))) (by omega) ((show F1 331 12 = F 331 12 from (hf_F1 331 12 (by first | exact fs_c rfl | exact (fs_n (by omega) (fs_n (by omega) (fs_n (by omega) rfl))))))) ((show F1 331 9 = F 331 9 from (hf_F1 331 9 (by first | exact fs_c rfl | exact (fs_n (by omega) (fs_n (by omega) (fs_n (by omega) rfl))))))) ((show F1 120 3 = F 120 3 from (hf_F1 120 3 (by first | exact fs_c rfl | exact (fs_n (by omega) (fs_n (by omega) (fs_n (by omega) rfl))))))) (by have h9_ := ly_c hly (show k.toNat < T.length by omega); omega) (fun x p d hd => sdu_cg (by omega) hd (fun r j hr => (show F1 (r) j = F (r) j from (hf_F1 (r) j (by first | exact fs_c rfl | exact (fs_n (by omega) (fs_n (by omega) (fs_n (by omega) rfl)))))))) (by rw [show F1 120 3 = F 120 3 from (show F1 120 3 = F 120 3 from (hf_F1 120 3 (by first | exact fs_c rfl | exact (fs_n (by omega) (fs_n (by omega) (fs_n (by omega) rfl))))))]; exact c25_)) (by have h9_ := c26_; rw [show (F 120 3).toNat = P.1 by rw [hP, pC_n]] at h9_; rw [show (k + 1).toNat = k.toNat + 1 by omega]; exact lvS_y hVl (by omega) h9_)
  exact L3_ _ (0) F rfl hgi fs_refl (⟨by omega, by omega⟩) (hli) (by omega) (lyS_0 hT h10 h11) (lvS_0 hcv h11 h5)

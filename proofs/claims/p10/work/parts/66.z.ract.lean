set_option maxHeartbeats 16000000 in
theorem mc_173 {G : Nat → Nat → Option Nat} (hG : gg G) (F : fl_N) (X : xi_H) (hgi : gi F) (K : fl_N) (ts pl al : List Int) (ps : List (List Int)) (hgK : gi K) (hrk : rk K F) (hkt : rkt K) (hp : 0 ≤ F 344 5 ∧ F 344 5 ≤ K 1 6 - 1) (hts : rpn (F 349) (F 344 15) ts) (hal : rpn (F 353) (F 344 21) al) (hpl : rpn (F 350) (F 344 17) pl) (hps : rprd F ps ∧ ps.length = pl.length) : fl_M xi_ms 173 7 165 [.ref 344] (fl_H sh_T G F ++ X) (pq_173 G F X K ts pl al ps) := by
  intro fr lo hfr hlo
  show fl_R xi_ms 173 fr lo 0 [(0, .ref 344)] [] _ _
  have hP := (rkt_p hkt hp.1 hp.2 hgK).1
  have hK16 : 0 ≤ K 1 6 ∧ K 1 6 ≤ 601 := gi_g hgK rfl
  have hko := hkt.1
  have hal1 := hal.1
  have hb21 : 0 ≤ F 344 21 ∧ F 344 21 ≤ 5 := gi_g hgi rfl
  have b1_ : 0 ≤ F 344 9 ∧ F 344 9 ≤ 5 := gi_g hgi rfl
  by_cases h2_ : F 344 9 = 0
  ·
    refine ga_aload_n (v := .ref 344) hm_173 rfl rfl rfl ?_
    have b3_ : 0 ≤ F 344 21 ∧ F 344 21 ≤ 5 := gi_g hgi rfl
    refine ga_geti (z := F 344 21) hm_173 rfl sc_344 rfl (rfl) ?_
    refine fl_iconst hm_173 rfl ?_
    refine fx_icmp_ne (a := F 344 21) (b := 5) hm_173 rfl ⟨by omega, by omega⟩ ⟨by omega, by omega⟩ (fun h4_ => ?_) (fun h5_ => ?_)
    ·
      refine ga_aload_n (v := .ref 344) hm_173 rfl rfl rfl ?_
      refine fl_bipush hm_173 rfl rfl ?_
      have b6_ : 0 ≤ F 344 5 ∧ F 344 5 ≤ 600 := gi_g hgi rfl
      refine gVv (nY := 2) (F := 2) (L := 41) (As := [.int (Int32.ofInt 40)]) (b := 344) (rest := []) hm_173 rfl hm_51 rfl rfl (fl_ob sc_344) rfl rfl rfl rfl rfl (by omega) (by omega) (mc_51 hG F X hgi (K) (40) (0) hgK hrk hkt (⟨by omega, by omega⟩) (by omega) (by omega)) (fun _ _ h => False.elim h) ?_
      have b8_ : 0 ≤ F 344 10 ∧ F 344 10 ≤ 600 := gi_g hgi rfl
      rintro A1_ (⟨F12_, hA_, g13_, s14_, c9_, c10_, c11_⟩ | ⟨F18_, hA_, g19_, s20_, c15_, c16_, c17_⟩)
      ·
        subst hA_
        have g21_ : fs [(344, 344, 5, 5), (344, 344, 9, 10), (344, 344, 21, 21), (344, 344, 63, 63), (353, 363, 0, 100000)] F F12_ := fs_tr fs_refl s14_ rfl
        have rk22_ : rk K F12_ := rk_fs hrk s14_ (fs_rg rfl) rfl
        have c10_s := c10_.1 (by omega)
        clear c10_
        have b23_ : 0 ≤ F12_ 344 9 ∧ F12_ 344 9 ≤ 5 := gi_g g13_ rfl
        have b24_ : 0 ≤ F12_ 344 10 ∧ F12_ 344 10 ≤ 600 := gi_g g13_ rfl
        have b25_ : 0 ≤ F12_ 344 5 ∧ F12_ 344 5 ≤ 600 := gi_g g13_ rfl
        exact mb_173_19 hG F X hgi K ts pl al ps hgK hrk hkt hp hts hal hpl hps fr lo hfr hlo F12_ g13_ g21_ rk22_ (by omega) (⟨by omega, by omega⟩) (⟨by intro h0_; have hs_ := c10_s; rw [sp_a1, if_neg (by omega), sp_action]; rw [hs_]; try (show Sum.inl _ = _); try (congr 2 <;> omega), fun h0_ => by exfalso; omega⟩)
      subst hA_
      have g26_ : fs [(344, 344, 5, 5), (344, 344, 9, 10), (344, 344, 21, 21), (344, 344, 63, 63), (353, 363, 0, 100000)] F F18_ := fs_tr fs_refl s20_ rfl
      have rk27_ : rk K F18_ := rk_fs hrk s20_ (fs_rg rfl) rfl
      refine ga_aload_n (v := .ref 344) hm_173 rfl rfl rfl ?_
      refine fl_iconst hm_173 rfl ?_
      have b28_ : 0 ≤ F18_ 344 5 ∧ F18_ 344 5 ≤ 600 := gi_g g19_ rfl
      refine gVv (nY := 2) (F := 2) (L := 44) (As := [.int (Int32.ofInt 4)]) (b := 344) (rest := []) hm_173 rfl hm_55 rfl rfl (fl_ob sc_344) rfl rfl rfl rfl rfl (by omega) (by omega) (mc_55 hG F18_ X g19_ (K) (4) ([58, 97, 99, 116, 105, 111, 110]) hgK rk27_ hkt (⟨by omega, by omega⟩) (⟨by omega, by omega⟩) (by decide) (kw_4 rk27_)) (fun _ _ h => False.elim h) ?_
      have b30_ : 0 ≤ F18_ 344 10 ∧ F18_ 344 10 ≤ 600 := gi_g g19_ rfl
      have b31_ : 0 ≤ F18_ 344 9 ∧ F18_ 344 9 ≤ 5 := gi_g g19_ rfl
      rintro A1_ (⟨F35_, hA_, g36_, s37_, c32_, c33_, c34_⟩ | ⟨F41_, hA_, g42_, s43_, c38_, c39_, c40_⟩)
      ·
        subst hA_
        have g44_ : fs [(344, 344, 5, 5), (344, 344, 9, 10), (344, 344, 21, 21), (344, 344, 63, 63), (353, 363, 0, 100000)] F F35_ := fs_tr g26_ s37_ rfl
        have rk45_ : rk K F35_ := rk_fs rk27_ s37_ (fs_rg rfl) rfl
        have c33_s := c33_.1 (by omega)
        clear c33_
        have b46_ : 0 ≤ F35_ 344 9 ∧ F35_ 344 9 ≤ 5 := gi_g g36_ rfl
        have b47_ : 0 ≤ F35_ 344 10 ∧ F35_ 344 10 ≤ 600 := gi_g g36_ rfl
        have b48_ : 0 ≤ F35_ 344 5 ∧ F35_ 344 5 ≤ 600 := gi_g g36_ rfl
        exact mb_173_24 hG F X hgi K ts pl al ps hgK hrk hkt hp hts hal hpl hps fr lo hfr hlo F35_ g36_ g44_ rk45_ (by omega) (⟨by omega, by omega⟩) (⟨by intro h0_; have hs_ := c33_s; rw [sp_a1, if_neg (by omega), sp_action]; rw [c16_]; simp only [pb_r]; rw [hs_]; try (show Sum.inl _ = _); try (congr 2 <;> omega), fun h0_ => by exfalso; omega⟩)
      subst hA_
      have g49_ : fs [(344, 344, 5, 5), (344, 344, 9, 10), (344, 344, 21, 21), (344, 344, 63, 63), (353, 363, 0, 100000)] F F41_ := fs_tr g26_ s43_ rfl
      have rk50_ : rk K F41_ := rk_fs rk27_ s43_ (fs_rg rfl) rfl
      refine ga_aload_n (v := .ref 344) hm_173 rfl rfl rfl ?_
      have b51_ : 0 ≤ F41_ 344 5 ∧ F41_ 344 5 ≤ 600 := gi_g g42_ rfl
      refine gVl (nY := 3) (F := 2) (L := 46) (As := []) (b := 344) (rest := []) hm_173 rfl hm_58 rfl rfl (fl_ob sc_344) rfl rfl rfl rfl rfl (by omega) (by omega) (mc_58 hG F41_ X g42_ (K) hgK rk50_ hkt (⟨by omega, by omega⟩)) (fun _ _ h => False.elim h) ?_
      have b53_ : 0 ≤ F41_ 344 10 ∧ F41_ 344 10 ≤ 600 := gi_g g42_ rfl
      have b54_ : 0 ≤ F41_ 344 9 ∧ F41_ 344 9 ≤ 5 := gi_g g42_ rfl
      rintro z52_ A1_ (⟨F59_, hA_, g60_, s61_, c55_, c56_, c57_, c58_⟩ | ⟨F69_, hA_, g70_, s71_, c62_, c63_, c64_, c65_, c66_, c67_, c68_⟩)
      ·
        subst hA_
        have g72_ : fs [(344, 344, 5, 5), (344, 344, 9, 10), (344, 344, 21, 21), (344, 344, 63, 63), (353, 363, 0, 100000)] F F59_ := fs_tr g49_ s61_ rfl
        have rk73_ : rk K F59_ := rk_fs rk50_ s61_ (fs_rg rfl) rfl
        have c56_s := c56_.1 (by omega)
        clear c56_
        refine ga_lstore_n (lv2 := [(1, .long (Int64.ofInt z52_)), (0, .ref 344)]) hm_173 rfl (Nat.le_of_ble_eq_true rfl) rfl ?_
        refine ga_aload_n (v := .ref 344) hm_173 rfl rfl rfl ?_
        refine gIi (nY := 1) (F := 0) (L := 0) (As := []) (b := 344) (rest := []) hm_173 rfl hm_59 rfl rfl (fl_ob sc_344) rfl rfl rfl rfl rfl (by omega) (by omega) ?_
        intro f74_ l75_ h76_ h77_
        show fl_R xi_ms 59 f74_ l75_ 0 [(0, .ref 344)] [] _ _
        refine ga_aload_n (v := .ref 344) hm_59 rfl rfl rfl ?_
        have b78_ : 0 ≤ F59_ 344 9 ∧ F59_ 344 9 ≤ 5 := gi_g g60_ rfl
        refine ga_geti (z := F59_ 344 9) hm_59 rfl sc_344 rfl (rfl) ?_
        refine fl_if_le (a := F59_ 344 9) hm_59 rfl ⟨by omega, by omega⟩ (fun h79_ => ?_) (fun h80_ => ?_)
        · exfalso; omega
        refine fl_iconst hm_59 rfl ?_
        refine fl_goto hm_59 rfl ?_
        refine gr_i hm_59 rfl rfl (ga_nb (by omega)) ?_
        clear h76_ h77_ f74_ l75_
        refine fl_if_ne hm_173 rfl ⟨by omega, by omega⟩ (fun _ => ?_) (fun h => absurd (by omega) h)
        refine ga_aload_n (v := .ref 344) hm_173 rfl rfl rfl ?_
        refine gIv (nY := 1) (F := 1) (L := 20) (As := []) (b := 344) (rest := []) hm_173 rfl hm_61 rfl rfl (fl_ob sc_344) rfl rfl rfl rfl rfl (by omega) (by omega) ?_
        intro f81_ l82_ h83_ h84_
        show fl_R xi_ms 61 f81_ l82_ 0 [(0, .ref 344)] [] _ _
        refine ga_aload_n (v := .ref 344) hm_61 rfl rfl rfl ?_
        refine ga_dup hm_61 rfl rfl ?_
        have e85_ : F59_ 344 5 = F41_ 344 5 := (s61_ 344 5 rfl).trans (rfl)
        refine ga_geti (z := F41_ 344 5) hm_61 rfl sc_344 rfl (e85_) ?_
        refine ga_aload_n (v := .ref 344) hm_61 rfl rfl rfl ?_
        refine gIi (nY := 1) (F := 0) (L := 0) (As := []) (b := 344) (rest := [.int (Int32.ofInt (F41_ 344 5)), .ref 344]) hm_61 rfl hm_59 rfl rfl (fl_ob sc_344) rfl rfl rfl rfl rfl (by omega) (by omega) ?_
        intro f86_ l87_ h88_ h89_
        show fl_R xi_ms 59 f86_ l87_ 0 [(0, .ref 344)] [] _ _
        refine ga_aload_n (v := .ref 344) hm_59 rfl rfl rfl ?_
        refine ga_geti (z := F59_ 344 9) hm_59 rfl sc_344 rfl (rfl) ?_
        refine fl_if_le (a := F59_ 344 9) hm_59 rfl ⟨by omega, by omega⟩ (fun h90_ => ?_) (fun h91_ => ?_)
        · exfalso; omega
        refine fl_iconst hm_59 rfl ?_
        refine fl_goto hm_59 rfl ?_
        refine gr_i hm_59 rfl rfl (ga_nb (by omega)) ?_
        clear h88_ h89_ f86_ l87_
        refine fl_if_eq hm_61 rfl ⟨by omega, by omega⟩ (fun h => absurd h (by omega)) (fun _ => ?_)
        refine fl_iconst hm_61 rfl ?_
        refine fl_goto hm_61 rfl ?_
        refine ga_iadd (a := F41_ 344 5) (b := 0) (c := F41_ 344 5) hm_61 rfl (by omega) ?_
        refine ga_puti (z := F41_ 344 5) hm_61 rfl sc_344 rfl rfl ?_
        refine gr_v hm_61 rfl rfl ?_
        clear h83_ h84_ f81_ l82_
        obtain ⟨F92_, q93_⟩ : ∃ Fq_, Fq_ = (fl_u F59_ 344 5 (F41_ 344 5)) := ⟨_, rfl⟩
        rw [← q93_]
        have g94_ : gi F92_ := by rw [q93_]; exact gi_u (g60_) rfl (by omega) (by omega)
        have g95_ : fs [(344, 344, 5, 5), (344, 344, 9, 10), (344, 344, 21, 21), (344, 344, 63, 63), (353, 363, 0, 100000)] F F92_ := by rw [q93_]; exact fs_u (g72_) rfl
        have rk96_ : rk K F92_ := by rw [q93_]; exact rk_u (rk73_) (by first | decide | exact nc_ rfl | omega) (by first | decide | exact nc_ rfl | omega)
        have e97_ : F92_ 344 9 = F59_ 344 9 := by rw [q93_]; exact fl_u_ne (by first | exact nc_ rfl | decide | omega)
        have e98_ : F92_ 344 10 = F59_ 344 10 := by rw [q93_]; exact fl_u_ne (by first | exact nc_ rfl | decide | omega)
        have b99_ : 0 ≤ F59_ 344 10 ∧ F59_ 344 10 ≤ 600 := gi_g g60_ rfl
        have e100_ : F92_ 344 5 = F41_ 344 5 := by rw [q93_]; exact fl_u_eq
        exact fl_R_sub (lv' := [(0, .ref 344)]) rfl rfl (mb_173_62 hG F X hgi K ts pl al ps hgK hrk hkt hp hts hal hpl hps fr lo hfr hlo F92_ g94_ g95_ rk96_ (by omega) (⟨by omega, by omega⟩) (⟨by intro h0_; have hs_ := c56_s; rw [sp_a1, if_neg (by omega), sp_action]; rw [c16_]; simp only [pb_r]; rw [c39_]; simp only [pb_r]; have h1_ := nm_no hs_; rw [sp_nm, if_neg h1_] at hs_; have h2_ := Prod.mk.inj (Sum.inl.inj hs_); rw [sp_new, if_neg h1_]; show Sum.inl (1, K 4 _) = _; congr 2 <;> omega, fun h0_ => by exfalso; omega⟩))
      subst hA_
      have g101_ : fs [(344, 344, 5, 5), (344, 344, 9, 10), (344, 344, 21, 21), (344, 344, 63, 63), (353, 363, 0, 100000)] F F69_ := fs_tr g49_ s71_ rfl
      have rk102_ : rk K F69_ := rk_fs rk50_ s71_ (fs_rg rfl) rfl
      refine ga_lstore_n (lv2 := [(1, .long (Int64.ofInt z52_)), (0, .ref 344)]) hm_173 rfl (Nat.le_of_ble_eq_true rfl) rfl ?_
      refine ga_aload_n (v := .ref 344) hm_173 rfl rfl rfl ?_
      refine gIi (nY := 1) (F := 0) (L := 0) (As := []) (b := 344) (rest := []) hm_173 rfl hm_59 rfl rfl (fl_ob sc_344) rfl rfl rfl rfl rfl (by omega) (by omega) ?_
      intro f103_ l104_ h105_ h106_
      show fl_R xi_ms 59 f103_ l104_ 0 [(0, .ref 344)] [] _ _
      refine ga_aload_n (v := .ref 344) hm_59 rfl rfl rfl ?_
      have b107_ : 0 ≤ F69_ 344 9 ∧ F69_ 344 9 ≤ 5 := gi_g g70_ rfl
      refine ga_geti (z := F69_ 344 9) hm_59 rfl sc_344 rfl (rfl) ?_
      refine fl_if_le (a := F69_ 344 9) hm_59 rfl ⟨by omega, by omega⟩ (fun h108_ => ?_) (fun h109_ => ?_)
      ·
        refine fl_iconst hm_59 rfl ?_
        refine gr_i hm_59 rfl rfl (ga_nb (by omega)) ?_
        clear h105_ h106_ f103_ l104_
        refine fl_if_ne hm_173 rfl ⟨by omega, by omega⟩ (fun h => absurd h (by omega)) (fun _ => ?_)
        refine ga_aload_n (v := .ref 344) hm_173 rfl rfl rfl ?_
        refine ga_getr (b := 353) hm_173 rfl sc_344 rfl ?_
        refine fl_iconst hm_173 rfl ?_
        refine ga_aload_n (v := .ref 344) hm_173 rfl rfl rfl ?_
        have e110_ : F18_ 344 21 = F 344 21 := (s20_ 344 21 rfl).trans (rfl)
        have e111_ : F41_ 344 21 = F 344 21 := (s43_ 344 21 rfl).trans (e110_)
        have e112_ : F69_ 344 21 = F 344 21 := (s71_ 344 21 rfl).trans (e111_)
        refine ga_geti (z := F 344 21) hm_173 rfl sc_344 rfl (e112_) ?_
        refine ga_lload_n (z := z52_) hm_173 rfl rfl ?_
        refine gSi (nY := 7) (F := 0) (L := 0) (As := [.ref 353, .int (Int32.ofInt 0), .int (Int32.ofInt (F 344 21)), .long (Int64.ofInt z52_)]) (rest := []) hm_173 rfl hm_162 rfl rfl (fl_pos sc_0) rfl rfl rfl rfl (by omega) (by omega) (mc_162 hG F69_ X g70_ (353) (5) (0) (F 344 21) (z52_) sc_353 (fun _ => rfl) (⟨by omega, by omega, by omega, by omega⟩) (⟨by omega, by omega⟩))  ?_
        rintro z113_ A1_ ⟨hA_, c114_, c115_, c116_⟩
        subst hA_
        have c114_b : -1 ≤ z113_ ∧ z113_ ≤ 1000 := by omega
        have c114_o : opq _ := c114_
        have c115_o : opq _ := c115_
        have c116_o : opq _ := c116_
        clear c114_ c115_ c116_
        refine fl_iconst hm_173 rfl ?_
        refine fl_icmp_eq (a := z113_) (b := -1) hm_173 rfl ⟨by omega, by omega⟩ ⟨by omega, by omega⟩ (fun h117_ => ?_) (fun h118_ => ?_)
        ·
          refine ga_aload_n (v := .ref 344) hm_173 rfl rfl rfl ?_
          refine gIv (nY := 1) (F := 1) (L := 20) (As := []) (b := 344) (rest := []) hm_173 rfl hm_61 rfl rfl (fl_ob sc_344) rfl rfl rfl rfl rfl (by omega) (by omega) ?_
          intro f119_ l120_ h121_ h122_
          show fl_R xi_ms 61 f119_ l120_ 0 [(0, .ref 344)] [] _ _
          refine ga_aload_n (v := .ref 344) hm_61 rfl rfl rfl ?_
          refine ga_dup hm_61 rfl rfl ?_
          have e123_ : F69_ 344 5 = F41_ 344 5 := (s71_ 344 5 rfl).trans (rfl)
          refine ga_geti (z := F41_ 344 5) hm_61 rfl sc_344 rfl (e123_) ?_
          refine ga_aload_n (v := .ref 344) hm_61 rfl rfl rfl ?_
          refine gIi (nY := 1) (F := 0) (L := 0) (As := []) (b := 344) (rest := [.int (Int32.ofInt (F41_ 344 5)), .ref 344]) hm_61 rfl hm_59 rfl rfl (fl_ob sc_344) rfl rfl rfl rfl rfl (by omega) (by omega) ?_
          intro f124_ l125_ h126_ h127_
          show fl_R xi_ms 59 f124_ l125_ 0 [(0, .ref 344)] [] _ _
          refine ga_aload_n (v := .ref 344) hm_59 rfl rfl rfl ?_
          refine ga_geti (z := F69_ 344 9) hm_59 rfl sc_344 rfl (rfl) ?_
          refine fl_if_le (a := F69_ 344 9) hm_59 rfl ⟨by omega, by omega⟩ (fun h128_ => ?_) (fun h129_ => ?_)
          ·
            refine fl_iconst hm_59 rfl ?_
            refine gr_i hm_59 rfl rfl (ga_nb (by omega)) ?_
            clear h126_ h127_ f124_ l125_
            refine fl_if_eq hm_61 rfl ⟨by omega, by omega⟩ (fun _ => ?_) (fun h => absurd (by omega) h)
            refine fl_iconst hm_61 rfl ?_
            refine ga_iadd (a := F41_ 344 5) (b := 1) (c := F41_ 344 5 + 1) hm_61 rfl (by omega) ?_
            refine ga_puti (z := F41_ 344 5 + 1) hm_61 rfl sc_344 rfl rfl ?_
            refine gr_v hm_61 rfl rfl ?_
            clear h121_ h122_ f119_ l120_
            refine ga_aload_n (v := .ref 344) hm_173 rfl rfl rfl ?_
            refine fl_iconst hm_173 rfl ?_
            obtain ⟨F130_, q131_⟩ : ∃ Fq_, Fq_ = (fl_u F69_ 344 5 (F41_ 344 5 + 1)) := ⟨_, rfl⟩
            rw [← q131_]
            have g132_ : gi F130_ := by rw [q131_]; exact gi_u (g70_) rfl (by omega) (by omega)
            have g133_ : fs [(344, 344, 5, 5), (344, 344, 9, 10), (344, 344, 21, 21), (344, 344, 63, 63), (353, 363, 0, 100000)] F F130_ := by rw [q131_]; exact fs_u (g101_) rfl
            have rk134_ : rk K F130_ := by rw [q131_]; exact rk_u (rk102_) (by first | decide | exact nc_ rfl | omega) (by first | decide | exact nc_ rfl | omega)
            have e135_ : F130_ 344 5 = F41_ 344 5 + 1 := by rw [q131_]; exact fl_u_eq
            refine gVv (nY := 2) (F := 2) (L := 44) (As := [.int (Int32.ofInt 5)]) (b := 344) (rest := []) hm_173 rfl hm_55 rfl rfl (fl_ob sc_344) rfl rfl rfl rfl rfl (by omega) (by omega) (mc_55 hG F130_ X g132_ (K) (5) ([58, 112, 97, 114, 97, 109, 101, 116, 101, 114, 115]) hgK rk134_ hkt (⟨by omega, by omega⟩) (⟨by omega, by omega⟩) (by decide) (kw_5 rk134_)) (fun _ _ h => False.elim h) ?_
            have e137_ : F130_ 344 10 = F69_ 344 10 := by rw [q131_]; exact fl_u_ne (by first | exact nc_ rfl | decide | omega)
            have b138_ : 0 ≤ F69_ 344 10 ∧ F69_ 344 10 ≤ 600 := gi_g g70_ rfl
            have e139_ : F130_ 344 9 = F69_ 344 9 := by rw [q131_]; exact fl_u_ne (by first | exact nc_ rfl | decide | omega)
            rintro A1_ (⟨F143_, hA_, g144_, s145_, c140_, c141_, c142_⟩ | ⟨F149_, hA_, g150_, s151_, c146_, c147_, c148_⟩)
            ·
              subst hA_
              have g152_ : fs [(344, 344, 5, 5), (344, 344, 9, 10), (344, 344, 21, 21), (344, 344, 63, 63), (353, 363, 0, 100000)] F F143_ := fs_tr g133_ s145_ rfl
              have rk153_ : rk K F143_ := rk_fs rk134_ s145_ (fs_rg rfl) rfl
              try simp only [e135_, e137_, e139_] at c141_
              have c141_s := c141_.1 (by omega)
              clear c141_
              have b154_ : 0 ≤ F143_ 344 9 ∧ F143_ 344 9 ≤ 5 := gi_g g144_ rfl
              have b155_ : 0 ≤ F143_ 344 10 ∧ F143_ 344 10 ≤ 600 := gi_g g144_ rfl
              have b156_ : 0 ≤ F143_ 344 5 ∧ F143_ 344 5 ≤ 600 := gi_g g144_ rfl
              exact fl_R_sub (lv' := [(0, .ref 344)]) rfl rfl (mb_173_67 hG F X hgi K ts pl al ps hgK hrk hkt hp hts hal hpl hps fr lo hfr hlo F143_ g144_ g152_ rk153_ (by omega) (⟨by omega, by omega⟩) (⟨by intro h0_; have hs_ := c141_s; rw [sp_a1, if_neg (by omega), sp_action]; rw [c16_]; simp only [pb_r]; rw [c39_]; simp only [pb_r]; rw [sp_new, if_pos (by omega), (ra_fi (by have x_ := (rpn_fs (rpn_fs (rpn_fs hal s20_ (fun _ => (by first | exact fs_c rfl | exact (fs_n (by omega) (fs_n (by omega) rfl)))) (by first | exact fs_c rfl | exact (fs_n (by omega) (fs_n (by omega) rfl)))) s43_ (fun _ => (by first | exact fs_c rfl | exact (fs_n (by omega) (fs_n (by omega) rfl)))) (by first | exact fs_c rfl | exact (fs_n (by omega) (fs_n (by omega) rfl)))) s71_ (fun _ => (by first | exact fs_c rfl | exact (fs_n (by omega) rfl))) (by first | exact fs_c rfl | exact (fs_n (by omega) rfl))); rw [e112_] at x_; exact x_) c65_ c114_o c115_o c116_o), if_pos (by omega), (show sk K (F41_ 344 5) = F41_ 344 5 + 1 by rw [sk, if_pos (by omega)])]; simp only [pb_r]; rw [hs_]; try (show Sum.inl _ = _); try (congr 2 <;> omega), fun h0_ => by exfalso; omega⟩))
            subst hA_
            have g157_ : fs [(344, 344, 5, 5), (344, 344, 9, 10), (344, 344, 21, 21), (344, 344, 63, 63), (353, 363, 0, 100000)] F F149_ := fs_tr g133_ s151_ rfl
            have rk158_ : rk K F149_ := rk_fs rk134_ s151_ (fs_rg rfl) rfl
            try simp only [e139_] at c146_
            try simp only [e135_] at c147_
            refine ga_aload_n (v := .ref 344) hm_173 rfl rfl rfl ?_
            refine fl_bipush hm_173 rfl rfl ?_
            have b159_ : 0 ≤ F149_ 344 5 ∧ F149_ 344 5 ≤ 600 := gi_g g150_ rfl
            refine gVv (nY := 2) (F := 2) (L := 41) (As := [.int (Int32.ofInt 40)]) (b := 344) (rest := []) hm_173 rfl hm_51 rfl rfl (fl_ob sc_344) rfl rfl rfl rfl rfl (by omega) (by omega) (mc_51 hG F149_ X g150_ (K) (40) (0) hgK rk158_ hkt (⟨by omega, by omega⟩) (by omega) (by omega)) (fun _ _ h => False.elim h) ?_
            have b161_ : 0 ≤ F149_ 344 10 ∧ F149_ 344 10 ≤ 600 := gi_g g150_ rfl
            have b162_ : 0 ≤ F149_ 344 9 ∧ F149_ 344 9 ≤ 5 := gi_g g150_ rfl
            rintro A1_ (⟨F166_, hA_, g167_, s168_, c163_, c164_, c165_⟩ | ⟨F172_, hA_, g173_, s174_, c169_, c170_, c171_⟩)
            ·
              subst hA_
              have g175_ : fs [(344, 344, 5, 5), (344, 344, 9, 10), (344, 344, 21, 21), (344, 344, 63, 63), (353, 363, 0, 100000)] F F166_ := fs_tr g157_ s168_ rfl
              have rk176_ : rk K F166_ := rk_fs rk158_ s168_ (fs_rg rfl) rfl
              have c164_s := c164_.1 (by omega)
              clear c164_
              have b177_ : 0 ≤ F166_ 344 9 ∧ F166_ 344 9 ≤ 5 := gi_g g167_ rfl
              have b178_ : 0 ≤ F166_ 344 10 ∧ F166_ 344 10 ≤ 600 := gi_g g167_ rfl
              have b179_ : 0 ≤ F166_ 344 5 ∧ F166_ 344 5 ≤ 600 := gi_g g167_ rfl
              exact fl_R_sub (lv' := [(0, .ref 344)]) rfl rfl (mb_173_73 hG F X hgi K ts pl al ps hgK hrk hkt hp hts hal hpl hps fr lo hfr hlo F166_ g167_ g175_ rk176_ (by omega) (⟨by omega, by omega⟩) (⟨by intro h0_; have hs_ := c164_s; rw [sp_a1, if_neg (by omega), sp_action]; rw [c16_]; simp only [pb_r]; rw [c39_]; simp only [pb_r]; rw [sp_new, if_pos (by omega), (ra_fi (by have x_ := (rpn_fs (rpn_fs (rpn_fs hal s20_ (fun _ => (by first | exact fs_c rfl | exact (fs_n (by omega) (fs_n (by omega) rfl)))) (by first | exact fs_c rfl | exact (fs_n (by omega) (fs_n (by omega) rfl)))) s43_ (fun _ => (by first | exact fs_c rfl | exact (fs_n (by omega) (fs_n (by omega) rfl)))) (by first | exact fs_c rfl | exact (fs_n (by omega) (fs_n (by omega) rfl)))) s71_ (fun _ => (by first | exact fs_c rfl | exact (fs_n (by omega) rfl))) (by first | exact fs_c rfl | exact (fs_n (by omega) rfl))); rw [e112_] at x_; exact x_) c65_ c114_o c115_o c116_o), if_pos (by omega), (show sk K (F41_ 344 5) = F41_ 344 5 + 1 by rw [sk, if_pos (by omega)])]; simp only [pb_r]; rw [c147_]; simp only [pb_r]; rw [hs_]; try (show Sum.inl _ = _); try (congr 2 <;> omega), fun h0_ => by exfalso; omega⟩))
            subst hA_
            have g180_ : fs [(344, 344, 5, 5), (344, 344, 9, 10), (344, 344, 21, 21), (344, 344, 63, 63), (353, 363, 0, 100000)] F F172_ := fs_tr g157_ s174_ rfl
            have rk181_ : rk K F172_ := rk_fs rk158_ s174_ (fs_rg rfl) rfl
            refine ga_aload_n (v := .ref 344) hm_173 rfl rfl rfl ?_
            refine gIi (nY := 1) (F := 0) (L := 0) (As := []) (b := 344) (rest := []) hm_173 rfl hm_59 rfl rfl (fl_ob sc_344) rfl rfl rfl rfl rfl (by omega) (by omega) ?_
            intro f182_ l183_ h184_ h185_
            show fl_R xi_ms 59 f182_ l183_ 0 [(0, .ref 344)] [] _ _
            refine ga_aload_n (v := .ref 344) hm_59 rfl rfl rfl ?_
            have b186_ : 0 ≤ F172_ 344 9 ∧ F172_ 344 9 ≤ 5 := gi_g g173_ rfl
            refine ga_geti (z := F172_ 344 9) hm_59 rfl sc_344 rfl (rfl) ?_
            refine fl_if_le (a := F172_ 344 9) hm_59 rfl ⟨by omega, by omega⟩ (fun h187_ => ?_) (fun h188_ => ?_)
            ·
              refine fl_iconst hm_59 rfl ?_
              refine gr_i hm_59 rfl rfl (ga_nb (by omega)) ?_
              clear h184_ h185_ f182_ l183_
              refine fl_if_eq hm_173 rfl ⟨by omega, by omega⟩ (fun _ => ?_) (fun h => absurd (by omega) h)
              refine ga_aload_n (v := .ref 344) hm_173 rfl rfl rfl ?_
              have e189_ : F130_ 344 21 = F 344 21 := by rw [q131_]; exact (fl_u_ne (by first | exact nc_ rfl | decide | omega)).trans (e112_)
              have e190_ : F149_ 344 21 = F 344 21 := (s151_ 344 21 rfl).trans (e189_)
              have e191_ : F172_ 344 21 = F 344 21 := (s174_ 344 21 rfl).trans (e190_)
              refine ga_geti (z := F 344 21) hm_173 rfl sc_344 rfl (e191_) ?_
              refine ga_istore_n (lv2 := [(3, .int (Int32.ofInt (F 344 21))), (1, .long (Int64.ofInt z52_)), (0, .ref 344)]) hm_173 rfl (Nat.le_of_ble_eq_true rfl) rfl ?_
              refine ga_aload_n (v := .ref 344) hm_173 rfl rfl rfl ?_
              refine ga_getr (b := 353) hm_173 rfl sc_344 rfl ?_
              refine ga_iload_n (z := F 344 21) hm_173 rfl rfl ?_
              refine ga_lload_n (z := z52_) hm_173 rfl rfl ?_
              refine fl_last (z := F 344 21) (v := z52_) hm_173 rfl sc_353 (by omega) (by omega) (by omega) ?_
              refine ga_aload_n (v := .ref 344) hm_173 rfl rfl rfl ?_
              refine ga_getr (b := 357) hm_173 rfl sc_344 rfl ?_
              refine ga_iload_n (z := F 344 21) hm_173 rfl rfl ?_
              refine fl_iconst hm_173 rfl ?_
              refine fl_iast (z := F 344 21) (v := 1) hm_173 rfl sc_357 (by omega) (by omega) (by omega) ?_
              refine ga_aload_n (v := .ref 344) hm_173 rfl rfl rfl ?_
              refine ga_getr (b := 358) hm_173 rfl sc_344 rfl ?_
              refine ga_iload_n (z := F 344 21) hm_173 rfl rfl ?_
              refine fl_iconst hm_173 rfl ?_
              refine fl_iast (z := F 344 21) (v := 0) hm_173 rfl sc_358 (by omega) (by omega) (by omega) ?_
              refine ga_aload_n (v := .ref 344) hm_173 rfl rfl rfl ?_
              refine ga_getr (b := 359) hm_173 rfl sc_344 rfl ?_
              refine ga_iload_n (z := F 344 21) hm_173 rfl rfl ?_
              refine fl_iconst hm_173 rfl ?_
              refine fl_iast (z := F 344 21) (v := 0) hm_173 rfl sc_359 (by omega) (by omega) (by omega) ?_
              refine ga_aload_n (v := .ref 344) hm_173 rfl rfl rfl ?_
              refine ga_getr (b := 354) hm_173 rfl sc_344 rfl ?_
              refine ga_iload_n (z := F 344 21) hm_173 rfl rfl ?_
              refine ga_aload_n (v := .ref 344) hm_173 rfl rfl rfl ?_
              refine fl_iconst hm_173 rfl ?_
              refine ga_aload_n (v := .ref 344) hm_173 rfl rfl rfl ?_
              refine ga_getr (b := 356) hm_173 rfl sc_344 rfl ?_
              refine ga_aload_n (v := .ref 344) hm_173 rfl rfl rfl ?_
              refine ga_getr (b := 355) hm_173 rfl sc_344 rfl ?_
              refine fl_iconst hm_173 rfl ?_
              refine ga_iload_n (z := F 344 21) hm_173 rfl rfl ?_
              refine ga_imul (a := 3) (b := F 344 21) (c := 3 * (F 344 21)) hm_173 rfl (by omega) ?_
              obtain ⟨F192_, q193_⟩ : ∃ Fq_, Fq_ = (fl_u (fl_u (fl_u (fl_u F172_ 353 (F 344 21).toNat z52_) 357 (F 344 21).toNat 1) 358 (F 344 21).toNat 0) 359 (F 344 21).toNat 0) := ⟨_, rfl⟩
              rw [← q193_]
              have g194_ : gi F192_ := by rw [q193_]; exact gi_u (gi_u (gi_u (gi_u (g173_) rfl (by omega) (by omega)) rfl (by omega) (by omega)) rfl (by omega) (by omega)) rfl (by omega) (by omega)
              have g195_ : fs [(344, 344, 5, 5), (344, 344, 9, 10), (344, 344, 21, 21), (344, 344, 63, 63), (353, 363, 0, 100000)] F F192_ := by rw [q193_]; exact fs_u (fs_u (fs_u (fs_u (g180_) (fs_z (fs_z (fs_z (fs_z (fs_y (by omega))))))) (fs_z (fs_z (fs_z (fs_z (fs_y (by omega))))))) (fs_z (fs_z (fs_z (fs_z (fs_y (by omega))))))) (fs_z (fs_z (fs_z (fs_z (fs_y (by omega))))))
              have rk196_ : rk K F192_ := by rw [q193_]; exact rk_u (rk_u (rk_u (rk_u (rk181_) (by first | decide | exact nc_ rfl | omega) (by first | decide | exact nc_ rfl | omega)) (by first | decide | exact nc_ rfl | omega) (by first | decide | exact nc_ rfl | omega)) (by first | decide | exact nc_ rfl | omega) (by first | decide | exact nc_ rfl | omega)) (by first | decide | exact nc_ rfl | omega) (by first | decide | exact nc_ rfl | omega)
              have e197_ : F192_ 344 5 = F172_ 344 5 := by rw [q193_]; exact (fl_u_ne (by first | exact nc_ rfl | decide | omega)).trans ((fl_u_ne (by first | exact nc_ rfl | decide | omega)).trans ((fl_u_ne (by first | exact nc_ rfl | decide | omega)).trans (fl_u_ne (by first | exact nc_ rfl | decide | omega))))
              have b198_ : 0 ≤ F172_ 344 5 ∧ F172_ 344 5 ≤ 600 := gi_g g173_ rfl
              refine gVi (nY := 8) (F := 4) (L := 89) (As := [.int (Int32.ofInt 3), .ref 356, .ref 355, .int (Int32.ofInt (3 * (F 344 21)))]) (b := 344) (rest := [.int (Int32.ofInt (F 344 21)), .ref 354]) hm_173 rfl hm_188 rfl rfl (fl_ob sc_344) rfl rfl rfl rfl rfl (by omega) (by omega) (mc_188 hG F192_ X g194_ (K) (3) (3 * (F 344 21)) (ts) hgK rk196_ hkt (⟨by omega, by omega⟩) ((by rw [q193_]; exact (rpn_u (rpn_u (rpn_u (rpn_u (rpn_fs (rpn_fs (by rw [q131_]; exact (rpn_u (rpn_fs (rpn_fs (rpn_fs hts s20_ (fun _ => (by first | exact fs_c rfl | exact (fs_n (by omega) (fs_n (by omega) rfl)))) (by first | exact fs_c rfl | exact (fs_n (by omega) (fs_n (by omega) rfl)))) s43_ (fun _ => (by first | exact fs_c rfl | exact (fs_n (by omega) (fs_n (by omega) rfl)))) (by first | exact fs_c rfl | exact (fs_n (by omega) (fs_n (by omega) rfl)))) s71_ (fun _ => (by first | exact fs_c rfl | exact (fs_n (by omega) rfl))) (by first | exact fs_c rfl | exact (fs_n (by omega) rfl))) (by first | decide | exact nc_ rfl | omega) (by first | decide | exact nc_ rfl | omega))) s151_ (fun _ => (by first | exact fs_c rfl | exact (fs_n (by omega) (fs_n (by omega) rfl)))) (by first | exact fs_c rfl | exact (fs_n (by omega) (fs_n (by omega) rfl)))) s174_ (fun _ => (by first | exact fs_c rfl | exact (fs_n (by omega) (fs_n (by omega) rfl)))) (by first | exact fs_c rfl | exact (fs_n (by omega) (fs_n (by omega) rfl)))) (by first | decide | exact nc_ rfl | omega) (by first | decide | exact nc_ rfl | omega)) (by first | decide | exact nc_ rfl | omega) (by first | decide | exact nc_ rfl | omega)) (by first | decide | exact nc_ rfl | omega) (by first | decide | exact nc_ rfl | omega)) (by first | decide | exact nc_ rfl | omega) (by first | decide | exact nc_ rfl | omega)))) (by omega) (⟨by omega, by omega⟩)) (fun _ _ h => False.elim h) ?_
              have e200_ : F192_ 344 10 = F172_ 344 10 := by rw [q193_]; exact (fl_u_ne (by first | exact nc_ rfl | decide | omega)).trans ((fl_u_ne (by first | exact nc_ rfl | decide | omega)).trans ((fl_u_ne (by first | exact nc_ rfl | decide | omega)).trans (fl_u_ne (by first | exact nc_ rfl | decide | omega))))
              have b201_ : 0 ≤ F172_ 344 10 ∧ F172_ 344 10 ≤ 600 := gi_g g173_ rfl
              have e202_ : F192_ 344 9 = F172_ 344 9 := by rw [q193_]; exact (fl_u_ne (by first | exact nc_ rfl | decide | omega)).trans ((fl_u_ne (by first | exact nc_ rfl | decide | omega)).trans ((fl_u_ne (by first | exact nc_ rfl | decide | omega)).trans (fl_u_ne (by first | exact nc_ rfl | decide | omega))))
              rintro z199_ A1_ (⟨F207_, hA_, g208_, s209_, c203_, c204_, c205_, c206_⟩ | ⟨F215_, hA_, g216_, s217_, c210_, c211_, c212_, c213_, c214_⟩)
              ·
                subst hA_
                have g218_ : fs [(344, 344, 5, 5), (344, 344, 9, 10), (344, 344, 21, 21), (344, 344, 63, 63), (353, 363, 0, 100000)] F F207_ := fs_tr g195_ s209_ rfl
                have rk219_ : rk K F207_ := rk_fs rk196_ s209_ (fs_rg rfl) rfl
                try simp only [e197_, e200_, e202_] at c204_
                have c204_s := c204_.1 (by omega)
                clear c204_
                refine fl_iast (z := F 344 21) (v := z199_) hm_173 rfl sc_354 (by omega) (by omega) (by omega) ?_
                obtain ⟨F220_, q221_⟩ : ∃ Fq_, Fq_ = (fl_u F207_ 354 (F 344 21).toNat z199_) := ⟨_, rfl⟩
                rw [← q221_]
                have g222_ : gi F220_ := by rw [q221_]; exact gi_u (g208_) rfl (by omega) (by omega)
                have g223_ : fs [(344, 344, 5, 5), (344, 344, 9, 10), (344, 344, 21, 21), (344, 344, 63, 63), (353, 363, 0, 100000)] F F220_ := by rw [q221_]; exact fs_u (g218_) (fs_z (fs_z (fs_z (fs_z (fs_y (by omega))))))
                have rk224_ : rk K F220_ := by rw [q221_]; exact rk_u (rk219_) (by first | decide | exact nc_ rfl | omega) (by first | decide | exact nc_ rfl | omega)
                have e225_ : F220_ 344 9 = F207_ 344 9 := by rw [q221_]; exact fl_u_ne (by first | exact nc_ rfl | decide | omega)
                have b226_ : 0 ≤ F207_ 344 9 ∧ F207_ 344 9 ≤ 5 := gi_g g208_ rfl
                have e227_ : F220_ 344 10 = F207_ 344 10 := by rw [q221_]; exact fl_u_ne (by first | exact nc_ rfl | decide | omega)
                have b228_ : 0 ≤ F207_ 344 10 ∧ F207_ 344 10 ≤ 600 := gi_g g208_ rfl
                have e229_ : F220_ 344 5 = F207_ 344 5 := by rw [q221_]; exact fl_u_ne (by first | exact nc_ rfl | decide | omega)
                have b230_ : 0 ≤ F207_ 344 5 ∧ F207_ 344 5 ≤ 600 := gi_g g208_ rfl
                have e231_ : F192_ 344 21 = F 344 21 := by rw [q193_]; exact (fl_u_ne (by first | exact nc_ rfl | decide | omega)).trans ((fl_u_ne (by first | exact nc_ rfl | decide | omega)).trans ((fl_u_ne (by first | exact nc_ rfl | decide | omega)).trans ((fl_u_ne (by first | exact nc_ rfl | decide | omega)).trans (e191_))))
                have e232_ : F207_ 344 21 = F 344 21 := (s209_ 344 21 rfl).trans (e231_)
                have e233_ : F220_ 344 21 = F 344 21 := by rw [q221_]; exact (fl_u_ne (by first | exact nc_ rfl | decide | omega)).trans (e232_)
                exact fl_R_sub (lv' := [(3, .int (Int32.ofInt (F 344 21))), (0, .ref 344)]) rfl rfl (mb_173_136 hG F X hgi K ts pl al ps hgK hrk hkt hp hts hal hpl hps fr lo hfr hlo F220_ g222_ g223_ rk224_ (by omega) (⟨by omega, by omega⟩) (⟨by intro h0_; have hs_ := c204_s; rw [sp_a1, if_neg (by omega), sp_action]; rw [c16_]; simp only [pb_r]; rw [c39_]; simp only [pb_r]; rw [sp_new, if_pos (by omega), (ra_fi (by have x_ := (rpn_fs (rpn_fs (rpn_fs hal s20_ (fun _ => (by first | exact fs_c rfl | exact (fs_n (by omega) (fs_n (by omega) rfl)))) (by first | exact fs_c rfl | exact (fs_n (by omega) (fs_n (by omega) rfl)))) s43_ (fun _ => (by first | exact fs_c rfl | exact (fs_n (by omega) (fs_n (by omega) rfl)))) (by first | exact fs_c rfl | exact (fs_n (by omega) (fs_n (by omega) rfl)))) s71_ (fun _ => (by first | exact fs_c rfl | exact (fs_n (by omega) rfl))) (by first | exact fs_c rfl | exact (fs_n (by omega) rfl))); rw [e112_] at x_; exact x_) c65_ c114_o c115_o c116_o), if_pos (by omega), (show sk K (F41_ 344 5) = F41_ 344 5 + 1 by rw [sk, if_pos (by omega)])]; simp only [pb_r]; rw [c147_]; simp only [pb_r]; rw [c170_]; simp only [pb_r]; rw [sp1_fl hs_]; try (show Sum.inl _ = _); try (congr 2 <;> omega), fun h0_ => by exfalso; omega⟩) (⟨by omega, by omega⟩))
              subst hA_
              have g234_ : fs [(344, 344, 5, 5), (344, 344, 9, 10), (344, 344, 21, 21), (344, 344, 63, 63), (353, 363, 0, 100000)] F F215_ := fs_tr g195_ s217_ rfl
              have rk235_ : rk K F215_ := rk_fs rk196_ s217_ (fs_rg rfl) rfl
              try simp only [e202_] at c210_
              try simp only [e197_] at c211_
              obtain ⟨l2_, tl2_, ⟨ct1_, ct2_⟩, ⟨ct3_, ct6n_⟩, ct4_, ct5_⟩ := c211_
              have ct6_ := ct6n_.symm
              refine fl_iast (z := F 344 21) (v := z199_) hm_173 rfl sc_354 (by omega) (by omega) (by omega) ?_
              refine ga_aload_n (v := .ref 344) hm_173 rfl rfl rfl ?_
              refine fl_bipush hm_173 rfl rfl ?_
              obtain ⟨F236_, q237_⟩ : ∃ Fq_, Fq_ = (fl_u F215_ 354 (F 344 21).toNat z199_) := ⟨_, rfl⟩
              rw [← q237_]
              have g238_ : gi F236_ := by rw [q237_]; exact gi_u (g216_) rfl (by omega) (by omega)
              have g239_ : fs [(344, 344, 5, 5), (344, 344, 9, 10), (344, 344, 21, 21), (344, 344, 63, 63), (353, 363, 0, 100000)] F F236_ := by rw [q237_]; exact fs_u (g234_) (fs_z (fs_z (fs_z (fs_z (fs_y (by omega))))))
              have rk240_ : rk K F236_ := by rw [q237_]; exact rk_u (rk235_) (by first | decide | exact nc_ rfl | omega) (by first | decide | exact nc_ rfl | omega)
              have e241_ : F236_ 344 5 = F215_ 344 5 := by rw [q237_]; exact fl_u_ne (by first | exact nc_ rfl | decide | omega)
              have b242_ : 0 ≤ F215_ 344 5 ∧ F215_ 344 5 ≤ 600 := gi_g g216_ rfl
              refine gVv (nY := 2) (F := 2) (L := 41) (As := [.int (Int32.ofInt 41)]) (b := 344) (rest := []) hm_173 rfl hm_51 rfl rfl (fl_ob sc_344) rfl rfl rfl rfl rfl (by omega) (by omega) (mc_51 hG F236_ X g238_ (K) (41) (1) hgK rk240_ hkt (⟨by omega, by omega⟩) (by omega) (by omega)) (fun _ _ h => False.elim h) ?_
              have e244_ : F236_ 344 10 = F215_ 344 10 := by rw [q237_]; exact fl_u_ne (by first | exact nc_ rfl | decide | omega)
              have b245_ : 0 ≤ F215_ 344 10 ∧ F215_ 344 10 ≤ 600 := gi_g g216_ rfl
              have e246_ : F236_ 344 9 = F215_ 344 9 := by rw [q237_]; exact fl_u_ne (by first | exact nc_ rfl | decide | omega)
              have b247_ : 0 ≤ F215_ 344 9 ∧ F215_ 344 9 ≤ 5 := gi_g g216_ rfl
              rintro A1_ (⟨F251_, hA_, g252_, s253_, c248_, c249_, c250_⟩ | ⟨F257_, hA_, g258_, s259_, c254_, c255_, c256_⟩)
              ·
                subst hA_
                have g260_ : fs [(344, 344, 5, 5), (344, 344, 9, 10), (344, 344, 21, 21), (344, 344, 63, 63), (353, 363, 0, 100000)] F F251_ := fs_tr g239_ s253_ rfl
                have rk261_ : rk K F251_ := rk_fs rk240_ s253_ (fs_rg rfl) rfl
                try simp only [e241_, e244_, e246_] at c249_
                have c249_s := c249_.1 (by omega)
                clear c249_
                have b262_ : 0 ≤ F251_ 344 9 ∧ F251_ 344 9 ≤ 5 := gi_g g252_ rfl
                have b263_ : 0 ≤ F251_ 344 10 ∧ F251_ 344 10 ≤ 600 := gi_g g252_ rfl
                have b264_ : 0 ≤ F251_ 344 5 ∧ F251_ 344 5 ≤ 600 := gi_g g252_ rfl
                have e265_ : F192_ 344 21 = F 344 21 := by rw [q193_]; exact (fl_u_ne (by first | exact nc_ rfl | decide | omega)).trans ((fl_u_ne (by first | exact nc_ rfl | decide | omega)).trans ((fl_u_ne (by first | exact nc_ rfl | decide | omega)).trans ((fl_u_ne (by first | exact nc_ rfl | decide | omega)).trans (e191_))))
                have e266_ : F215_ 344 21 = F 344 21 := (s217_ 344 21 rfl).trans (e265_)
                have e267_ : F236_ 344 21 = F 344 21 := by rw [q237_]; exact (fl_u_ne (by first | exact nc_ rfl | decide | omega)).trans (e266_)
                have e268_ : F251_ 344 21 = F 344 21 := (s253_ 344 21 rfl).trans (e267_)
                exact fl_R_sub (lv' := [(3, .int (Int32.ofInt (F 344 21))), (0, .ref 344)]) rfl rfl (mb_173_142 hG F X hgi K ts pl al ps hgK hrk hkt hp hts hal hpl hps fr lo hfr hlo F251_ g252_ g260_ rk261_ (by omega) (⟨by omega, by omega⟩) (⟨by intro h0_; have hs_ := c249_s; rw [sp_a1, if_neg (by omega), sp_action]; rw [c16_]; simp only [pb_r]; rw [c39_]; simp only [pb_r]; rw [sp_new, if_pos (by omega), (ra_fi (by have x_ := (rpn_fs (rpn_fs (rpn_fs hal s20_ (fun _ => (by first | exact fs_c rfl | exact (fs_n (by omega) (fs_n (by omega) rfl)))) (by first | exact fs_c rfl | exact (fs_n (by omega) (fs_n (by omega) rfl)))) s43_ (fun _ => (by first | exact fs_c rfl | exact (fs_n (by omega) (fs_n (by omega) rfl)))) (by first | exact fs_c rfl | exact (fs_n (by omega) (fs_n (by omega) rfl)))) s71_ (fun _ => (by first | exact fs_c rfl | exact (fs_n (by omega) rfl))) (by first | exact fs_c rfl | exact (fs_n (by omega) rfl))); rw [e112_] at x_; exact x_) c65_ c114_o c115_o c116_o), if_pos (by omega), (show sk K (F41_ 344 5) = F41_ 344 5 + 1 by rw [sk, if_pos (by omega)])]; simp only [pb_r]; rw [c147_]; simp only [pb_r]; rw [c170_]; simp only [pb_r]; rw [sp1_ok ct1_]; simp only [pb_r]; rw [hs_]; try (show Sum.inl _ = _); try (congr 2 <;> omega), fun h0_ => by exfalso; omega⟩) (⟨by omega, by omega⟩))
              subst hA_
              have g269_ : fs [(344, 344, 5, 5), (344, 344, 9, 10), (344, 344, 21, 21), (344, 344, 63, 63), (353, 363, 0, 100000)] F F257_ := fs_tr g239_ s259_ rfl
              have rk270_ : rk K F257_ := rk_fs rk240_ s259_ (fs_rg rfl) rfl
              try simp only [e246_] at c254_
              try simp only [e241_] at c255_
              have b271_ : 0 ≤ F257_ 344 9 ∧ F257_ 344 9 ≤ 5 := gi_g g258_ rfl
              have b272_ : 0 ≤ F257_ 344 10 ∧ F257_ 344 10 ≤ 600 := gi_g g258_ rfl
              have b273_ : 0 ≤ F257_ 344 5 ∧ F257_ 344 5 ≤ 600 := gi_g g258_ rfl
              have e274_ : F192_ 344 21 = F 344 21 := by rw [q193_]; exact (fl_u_ne (by first | exact nc_ rfl | decide | omega)).trans ((fl_u_ne (by first | exact nc_ rfl | decide | omega)).trans ((fl_u_ne (by first | exact nc_ rfl | decide | omega)).trans ((fl_u_ne (by first | exact nc_ rfl | decide | omega)).trans (e191_))))
              have e275_ : F215_ 344 21 = F 344 21 := (s217_ 344 21 rfl).trans (e274_)
              have e276_ : F236_ 344 21 = F 344 21 := by rw [q237_]; exact (fl_u_ne (by first | exact nc_ rfl | decide | omega)).trans (e275_)
              have e277_ : F257_ 344 21 = F 344 21 := (s259_ 344 21 rfl).trans (e276_)
              have e278_ : F192_ 353 (F 344 21).toNat = z52_ := by rw [q193_]; exact (fl_u_ne (by first | exact nc_ rfl | decide | omega)).trans ((fl_u_ne (by first | exact nc_ rfl | decide | omega)).trans ((fl_u_ne (by first | exact nc_ rfl | decide | omega)).trans (fl_u_eq)))
              have e279_ : F215_ 353 (F 344 21).toNat = z52_ := (s217_ 353 (F 344 21).toNat (by first | exact fs_c rfl | exact (fs_n (by omega) (fs_n (by omega) (fs_n (by omega) rfl))))).trans (e278_)
              have e280_ : F236_ 353 (F 344 21).toNat = z52_ := by rw [q237_]; exact (fl_u_ne (by first | exact nc_ rfl | decide | omega)).trans (e279_)
              have e281_ : F257_ 353 (F 344 21).toNat = z52_ := (s259_ 353 (F 344 21).toNat (by first | exact fs_c rfl | exact (fs_n (by omega) (fs_n (by omega) rfl)))).trans (e280_)
              have e282_ : F236_ 354 (F 344 21).toNat = z199_ := by rw [q237_]; exact fl_u_eq
              have e283_ : F257_ 354 (F 344 21).toNat = z199_ := (s259_ 354 (F 344 21).toNat (by first | exact fs_c rfl | exact (fs_n (by omega) (fs_n (by omega) rfl)))).trans (e282_)
              have e284_ : F192_ 358 (F 344 21).toNat = 0 := by rw [q193_]; exact (fl_u_ne (by first | exact nc_ rfl | decide | omega)).trans (fl_u_eq)
              have e285_ : F215_ 358 (F 344 21).toNat = 0 := (s217_ 358 (F 344 21).toNat (by first | exact fs_c rfl | exact (fs_n (by omega) (fs_n (by omega) (fs_n (by omega) rfl))))).trans (e284_)
              have e286_ : F236_ 358 (F 344 21).toNat = 0 := by rw [q237_]; exact (fl_u_ne (by first | exact nc_ rfl | decide | omega)).trans (e285_)
              have e287_ : F257_ 358 (F 344 21).toNat = 0 := (s259_ 358 (F 344 21).toNat (by first | exact fs_c rfl | exact (fs_n (by omega) (fs_n (by omega) rfl)))).trans (e286_)
              have e288_ : F192_ 359 (F 344 21).toNat = 0 := by rw [q193_]; exact fl_u_eq
              have e289_ : F215_ 359 (F 344 21).toNat = 0 := (s217_ 359 (F 344 21).toNat (by first | exact fs_c rfl | exact (fs_n (by omega) (fs_n (by omega) (fs_n (by omega) rfl))))).trans (e288_)
              have e290_ : F236_ 359 (F 344 21).toNat = 0 := by rw [q237_]; exact (fl_u_ne (by first | exact nc_ rfl | decide | omega)).trans (e289_)
              have e291_ : F257_ 359 (F 344 21).toNat = 0 := (s259_ 359 (F 344 21).toNat (by first | exact fs_c rfl | exact (fs_n (by omega) (fs_n (by omega) rfl)))).trans (e290_)
              have e292_ : F192_ 357 (F 344 21).toNat = 1 := by rw [q193_]; exact (fl_u_ne (by first | exact nc_ rfl | decide | omega)).trans ((fl_u_ne (by first | exact nc_ rfl | decide | omega)).trans (fl_u_eq))
              have e293_ : F215_ 357 (F 344 21).toNat = 1 := (s217_ 357 (F 344 21).toNat (by first | exact fs_c rfl | exact (fs_n (by omega) (fs_n (by omega) (fs_n (by omega) rfl))))).trans (e292_)
              have e294_ : F236_ 357 (F 344 21).toNat = 1 := by rw [q237_]; exact (fl_u_ne (by first | exact nc_ rfl | decide | omega)).trans (e293_)
              have e295_ : F257_ 357 (F 344 21).toNat = 1 := (s259_ 357 (F 344 21).toNat (by first | exact fs_c rfl | exact (fs_n (by omega) (fs_n (by omega) rfl)))).trans (e294_)
              exact fl_R_sub (lv' := [(3, .int (Int32.ofInt (F 344 21))), (0, .ref 344)]) rfl rfl (mg_173_142 hG F X hgi K ts pl al ps hgK hrk hkt hp hts hal hpl hps fr lo hfr hlo F257_ (K 6 (F41_ 344 5).toNat) (l2_) (tl2_) g258_ g269_ rk270_ ⟨by omega, by omega⟩ ⟨by omega, by omega⟩ (by rw [sp_a1, if_neg (by omega), sp_action]; rw [c16_]; simp only [pb_r]; rw [c39_]; simp only [pb_r]; rw [sp_new, if_pos (by omega), (ra_fi (by have x_ := (rpn_fs (rpn_fs (rpn_fs hal s20_ (fun _ => (by first | exact fs_c rfl | exact (fs_n (by omega) (fs_n (by omega) rfl)))) (by first | exact fs_c rfl | exact (fs_n (by omega) (fs_n (by omega) rfl)))) s43_ (fun _ => (by first | exact fs_c rfl | exact (fs_n (by omega) (fs_n (by omega) rfl)))) (by first | exact fs_c rfl | exact (fs_n (by omega) (fs_n (by omega) rfl)))) s71_ (fun _ => (by first | exact fs_c rfl | exact (fs_n (by omega) rfl))) (by first | exact fs_c rfl | exact (fs_n (by omega) rfl))); rw [e112_] at x_; exact x_) c65_ c114_o c115_o c116_o), if_pos (by omega), (show sk K (F41_ 344 5) = F41_ 344 5 + 1 by rw [sk, if_pos (by omega)])]; simp only [pb_r]; rw [c147_]; simp only [pb_r]; rw [c170_]; simp only [pb_r]; rw [sp1_ok ct1_]; simp only [pb_r]; rw [c255_]; simp only [pb_r]; rfl) (⟨by omega, by omega⟩) (by rw [show F257_ 353 (F 344 21).toNat = _ from e281_]; exact c65_) (rpn_cg hal (fun j hj => (Eq.trans (a := F257_ 353 j) (b := F236_ 353 j) (s259_ 353 j (by first | exact fs_c rfl | exact (fs_n (by omega) (fs_n (by omega) rfl)))) (Eq.trans (a := F236_ 353 j) (b := F215_ 353 j) (by rw [q237_]; exact (fl_u_ne (by first | exact nc_ rfl | decide | omega))) (Eq.trans (a := F215_ 353 j) (b := F192_ 353 j) (s217_ 353 j (by first | exact fs_c rfl | exact (fs_n (by omega) (fs_n (by omega) (fs_n (by omega) rfl))))) (Eq.trans (a := F192_ 353 j) (b := F172_ 353 j) (by rw [q193_]; exact (fl_u_ne (by first | exact nc_ rfl | decide | omega)).trans ((fl_u_ne (by first | exact nc_ rfl | decide | omega)).trans ((fl_u_ne (by first | exact nc_ rfl | decide | omega)).trans ((fl_u_ne (by first | exact nc_ rfl | decide | omega)))))) (Eq.trans (a := F172_ 353 j) (b := F149_ 353 j) (s174_ 353 j (by first | exact fs_c rfl | exact (fs_n (by omega) (fs_n (by omega) rfl)))) (Eq.trans (a := F149_ 353 j) (b := F130_ 353 j) (s151_ 353 j (by first | exact fs_c rfl | exact (fs_n (by omega) (fs_n (by omega) rfl)))) (Eq.trans (a := F130_ 353 j) (b := F69_ 353 j) (by rw [q131_]; exact (fl_u_ne (by first | exact nc_ rfl | decide | omega))) (Eq.trans (a := F69_ 353 j) (b := F41_ 353 j) (s71_ 353 j (by first | exact fs_c rfl | exact (fs_n (by omega) rfl))) (Eq.trans (a := F41_ 353 j) (b := F18_ 353 j) (s43_ 353 j (by first | exact fs_c rfl | exact (fs_n (by omega) (fs_n (by omega) rfl)))) (show F18_ 353 j = F 353 j from (s20_ 353 j (by first | exact fs_c rfl | exact (fs_n (by omega) (fs_n (by omega) rfl)))))))))))))))) (by rw [show F257_ 354 (F 344 21).toNat = z199_ from e283_]; exact rpn_cg ct5_ (fun j hj => (Eq.trans (a := F257_ 356 ((3 * F 344 21).toNat + j)) (b := F236_ 356 ((3 * F 344 21).toNat + j)) (s259_ 356 ((3 * F 344 21).toNat + j) (by first | exact fs_c rfl | exact (fs_n (by omega) (fs_n (by omega) rfl)))) (show F236_ 356 ((3 * F 344 21).toNat + j) = F215_ 356 ((3 * F 344 21).toNat + j) from (by rw [q237_]; exact (fl_u_ne (by first | exact nc_ rfl | decide | omega))))))) (rty_cg ct4_ (fun j hj => (Eq.trans (a := F257_ 355 ((3 * F 344 21).toNat + j)) (b := F236_ 355 ((3 * F 344 21).toNat + j)) (s259_ 355 ((3 * F 344 21).toNat + j) (by first | exact fs_c rfl | exact (fs_n (by omega) (fs_n (by omega) rfl)))) (show F236_ 355 ((3 * F 344 21).toNat + j) = F215_ 355 ((3 * F 344 21).toNat + j) from (by rw [q237_]; exact (fl_u_ne (by first | exact nc_ rfl | decide | omega))))))) (ct6_) (e287_) (e291_) (⟨by rw [show F257_ 357 (F 344 21).toNat = _ from e295_]; omega, fun j hj => (Eq.trans (a := F257_ 357 j) (b := F236_ 357 j) (s259_ 357 j (by first | exact fs_c rfl | exact (fs_n (by omega) (fs_n (by omega) rfl)))) (Eq.trans (a := F236_ 357 j) (b := F215_ 357 j) (by rw [q237_]; exact (fl_u_ne (by first | exact nc_ rfl | decide | omega))) (Eq.trans (a := F215_ 357 j) (b := F192_ 357 j) (s217_ 357 j (by first | exact fs_c rfl | exact (fs_n (by omega) (fs_n (by omega) (fs_n (by omega) rfl))))) (Eq.trans (a := F192_ 357 j) (b := F172_ 357 j) (by rw [q193_]; exact (fl_u_ne (by first | exact nc_ rfl | decide | omega)).trans ((fl_u_ne (by first | exact nc_ rfl | decide | omega)).trans ((fl_u_ne (by first | exact nc_ rfl | decide | omega)).trans ((fl_u_ne (by first | exact nc_ rfl | decide | omega)))))) (Eq.trans (a := F172_ 357 j) (b := F149_ 357 j) (s174_ 357 j (by first | exact fs_c rfl | exact (fs_n (by omega) (fs_n (by omega) rfl)))) (Eq.trans (a := F149_ 357 j) (b := F130_ 357 j) (s151_ 357 j (by first | exact fs_c rfl | exact (fs_n (by omega) (fs_n (by omega) rfl)))) (Eq.trans (a := F130_ 357 j) (b := F69_ 357 j) (by rw [q131_]; exact (fl_u_ne (by first | exact nc_ rfl | decide | omega))) (Eq.trans (a := F69_ 357 j) (b := F41_ 357 j) (s71_ 357 j (by first | exact fs_c rfl | exact (fs_n (by omega) rfl))) (Eq.trans (a := F41_ 357 j) (b := F18_ 357 j) (s43_ 357 j (by first | exact fs_c rfl | exact (fs_n (by omega) (fs_n (by omega) rfl)))) (show F18_ 357 j = F 357 j from (s20_ 357 j (by first | exact fs_c rfl | exact (fs_n (by omega) (fs_n (by omega) rfl))))))))))))))⟩) (e295_) ((lfr_fg (by rw [q237_]; exact (lfr_ua (lfr_vg (by rw [q193_]; exact (lfr_ua (lfr_ua (lfr_ua (lfr_uo (lfr_fg (lfr_fg (by rw [q131_]; exact (lfr_uo (lfr_fg (lfr_fg (lfr_fg lfr_r s20_ rfl) s43_ rfl) s71_ rfl) rfl)) s151_ rfl) s174_ rfl) rfl) rfl (by omega)) rfl (by omega)) rfl (by omega))) s217_ rfl rfl (fun j hj => c214_ j (by omega))) rfl (by omega))) s259_ rfl)) (by rw [act_h c16_ c39_ (show sp_new K 2 al (F41_ 344 5) = .inr (F41_ 344 5 + 1, al ++ [K 6 (F41_ 344 5).toNat]) by rw [sp_new, if_pos (by omega), (ra_fi (by have x_ := (rpn_fs (rpn_fs (rpn_fs hal s20_ (fun _ => (by first | exact fs_c rfl | exact (fs_n (by omega) (fs_n (by omega) rfl)))) (by first | exact fs_c rfl | exact (fs_n (by omega) (fs_n (by omega) rfl)))) s43_ (fun _ => (by first | exact fs_c rfl | exact (fs_n (by omega) (fs_n (by omega) rfl)))) (by first | exact fs_c rfl | exact (fs_n (by omega) (fs_n (by omega) rfl)))) s71_ (fun _ => (by first | exact fs_c rfl | exact (fs_n (by omega) rfl))) (by first | exact fs_c rfl | exact (fs_n (by omega) rfl))); rw [e112_] at x_; exact x_) c65_ c114_o c115_o c116_o), if_pos (by omega), (show sk K (F41_ 344 5) = F41_ 344 5 + 1 by rw [sk, if_pos (by omega)])]) c147_ c170_ (sp1_ok ct1_) c255_]))
            exfalso; omega
          exfalso; omega
        refine ga_aload_n (v := .ref 344) hm_173 rfl rfl rfl ?_
        refine fl_iconst hm_173 rfl ?_
        have e296_ : F69_ 344 5 = F41_ 344 5 := (s71_ 344 5 rfl).trans (rfl)
        refine gVv (nY := 2) (F := 0) (L := 0) (As := [.int (Int32.ofInt 2)]) (b := 344) (rest := []) hm_173 rfl hm_54 rfl rfl (fl_ob sc_344) rfl rfl rfl rfl rfl (by omega) (by omega) (mc_54 hG F69_ X g70_ (K) (2) hgK rk102_ hkt (⟨by omega, by omega⟩) (⟨by omega, by omega⟩)) (fun _ _ h => False.elim h) ?_
        have b298_ : 0 ≤ F69_ 344 10 ∧ F69_ 344 10 ≤ 600 := gi_g g70_ rfl
        rintro A1_ ⟨F302_, hA_, g303_, s304_, c299_, c300_, c301_⟩
        subst hA_
        have g305_ : fs [(344, 344, 5, 5), (344, 344, 9, 10), (344, 344, 21, 21), (344, 344, 63, 63), (353, 363, 0, 100000)] F F302_ := fs_tr g101_ s304_ rfl
        have rk306_ : rk K F302_ := rk_fs rk102_ s304_ (fs_rg rfl) rfl
        try simp only [e296_] at c300_
        try simp only [e296_] at c301_
        have c300_s := c300_.1 (by omega)
        clear c300_
        refine ga_aload_n (v := .ref 344) hm_173 rfl rfl rfl ?_
        refine gIv (nY := 1) (F := 1) (L := 20) (As := []) (b := 344) (rest := []) hm_173 rfl hm_61 rfl rfl (fl_ob sc_344) rfl rfl rfl rfl rfl (by omega) (by omega) ?_
        intro f307_ l308_ h309_ h310_
        show fl_R xi_ms 61 f307_ l308_ 0 [(0, .ref 344)] [] _ _
        refine ga_aload_n (v := .ref 344) hm_61 rfl rfl rfl ?_
        refine ga_dup hm_61 rfl rfl ?_
        have e311_ : F302_ 344 5 = F41_ 344 5 := (s304_ 344 5 rfl).trans (e296_)
        refine ga_geti (z := F41_ 344 5) hm_61 rfl sc_344 rfl (e311_) ?_
        refine ga_aload_n (v := .ref 344) hm_61 rfl rfl rfl ?_
        refine gIi (nY := 1) (F := 0) (L := 0) (As := []) (b := 344) (rest := [.int (Int32.ofInt (F41_ 344 5)), .ref 344]) hm_61 rfl hm_59 rfl rfl (fl_ob sc_344) rfl rfl rfl rfl rfl (by omega) (by omega) ?_
        intro f312_ l313_ h314_ h315_
        show fl_R xi_ms 59 f312_ l313_ 0 [(0, .ref 344)] [] _ _
        refine ga_aload_n (v := .ref 344) hm_59 rfl rfl rfl ?_
        have b316_ : 0 ≤ F302_ 344 9 ∧ F302_ 344 9 ≤ 5 := gi_g g303_ rfl
        refine ga_geti (z := F302_ 344 9) hm_59 rfl sc_344 rfl (rfl) ?_
        refine fl_if_le (a := F302_ 344 9) hm_59 rfl ⟨by omega, by omega⟩ (fun h317_ => ?_) (fun h318_ => ?_)
        · exfalso; omega
        refine fl_iconst hm_59 rfl ?_
        refine fl_goto hm_59 rfl ?_
        refine gr_i hm_59 rfl rfl (ga_nb (by omega)) ?_
        clear h314_ h315_ f312_ l313_
        refine fl_if_eq hm_61 rfl ⟨by omega, by omega⟩ (fun h => absurd h (by omega)) (fun _ => ?_)
        refine fl_iconst hm_61 rfl ?_
        refine fl_goto hm_61 rfl ?_
        refine ga_iadd (a := F41_ 344 5) (b := 0) (c := F41_ 344 5) hm_61 rfl (by omega) ?_
        refine ga_puti (z := F41_ 344 5) hm_61 rfl sc_344 rfl rfl ?_
        refine gr_v hm_61 rfl rfl ?_
        clear h309_ h310_ f307_ l308_
        obtain ⟨F319_, q320_⟩ : ∃ Fq_, Fq_ = (fl_u F302_ 344 5 (F41_ 344 5)) := ⟨_, rfl⟩
        rw [← q320_]
        have g321_ : gi F319_ := by rw [q320_]; exact gi_u (g303_) rfl (by omega) (by omega)
        have g322_ : fs [(344, 344, 5, 5), (344, 344, 9, 10), (344, 344, 21, 21), (344, 344, 63, 63), (353, 363, 0, 100000)] F F319_ := by rw [q320_]; exact fs_u (g305_) rfl
        have rk323_ : rk K F319_ := by rw [q320_]; exact rk_u (rk306_) (by first | decide | exact nc_ rfl | omega) (by first | decide | exact nc_ rfl | omega)
        have e324_ : F319_ 344 9 = F302_ 344 9 := by rw [q320_]; exact fl_u_ne (by first | exact nc_ rfl | decide | omega)
        have e325_ : F319_ 344 10 = F302_ 344 10 := by rw [q320_]; exact fl_u_ne (by first | exact nc_ rfl | decide | omega)
        have b326_ : 0 ≤ F302_ 344 10 ∧ F302_ 344 10 ≤ 600 := gi_g g303_ rfl
        have e327_ : F319_ 344 5 = F41_ 344 5 := by rw [q320_]; exact fl_u_eq
        exact fl_R_sub (lv' := [(0, .ref 344)]) rfl rfl (mb_173_62 hG F X hgi K ts pl al ps hgK hrk hkt hp hts hal hpl hps fr lo hfr hlo F319_ g321_ g322_ rk323_ (by omega) (⟨by omega, by omega⟩) (⟨by intro h0_; have hs_ := c300_s; rw [sp_a1, if_neg (by omega), sp_action]; rw [c16_]; simp only [pb_r]; rw [c39_]; simp only [pb_r]; rw [sp_new, if_pos (by omega), (ra_fi (by have x_ := (rpn_fs (rpn_fs (rpn_fs hal s20_ (fun _ => (by first | exact fs_c rfl | exact (fs_n (by omega) (fs_n (by omega) rfl)))) (by first | exact fs_c rfl | exact (fs_n (by omega) (fs_n (by omega) rfl)))) s43_ (fun _ => (by first | exact fs_c rfl | exact (fs_n (by omega) (fs_n (by omega) rfl)))) (by first | exact fs_c rfl | exact (fs_n (by omega) (fs_n (by omega) rfl)))) s71_ (fun _ => (by first | exact fs_c rfl | exact (fs_n (by omega) rfl))) (by first | exact fs_c rfl | exact (fs_n (by omega) rfl))); rw [e112_] at x_; exact x_) c65_ c114_o c115_o c116_o), if_neg (by omega)]; show Sum.inl (2, K 4 _) = _; congr 2 <;> omega, fun h0_ => by exfalso; omega⟩))
      exfalso; omega
    refine ga_aload_n (v := .ref 344) hm_173 rfl rfl rfl ?_
    refine fl_iconst hm_173 rfl ?_
    have b328_ : 0 ≤ F 344 5 ∧ F 344 5 ≤ 600 := gi_g hgi rfl
    refine gVv (nY := 2) (F := 0) (L := 0) (As := [.int (Int32.ofInt 1)]) (b := 344) (rest := []) hm_173 rfl hm_54 rfl rfl (fl_ob sc_344) rfl rfl rfl rfl rfl (by omega) (by omega) (mc_54 hG F X hgi (K) (1) hgK hrk hkt (⟨by omega, by omega⟩) (⟨by omega, by omega⟩)) (fun _ _ h => False.elim h) ?_
    have b330_ : 0 ≤ F 344 10 ∧ F 344 10 ≤ 600 := gi_g hgi rfl
    rintro A1_ ⟨F334_, hA_, g335_, s336_, c331_, c332_, c333_⟩
    subst hA_
    have g337_ : fs [(344, 344, 5, 5), (344, 344, 9, 10), (344, 344, 21, 21), (344, 344, 63, 63), (353, 363, 0, 100000)] F F334_ := fs_tr fs_refl s336_ rfl
    have rk338_ : rk K F334_ := rk_fs hrk s336_ (fs_rg rfl) rfl
    have c332_s := c332_.1 (by omega)
    clear c332_
    have b339_ : 0 ≤ F334_ 344 9 ∧ F334_ 344 9 ≤ 5 := gi_g g335_ rfl
    have b340_ : 0 ≤ F334_ 344 10 ∧ F334_ 344 10 ≤ 600 := gi_g g335_ rfl
    have e341_ : F334_ 344 5 = F 344 5 := (s336_ 344 5 rfl).trans (rfl)
    exact mb_173_13 hG F X hgi K ts pl al ps hgK hrk hkt hp hts hal hpl hps fr lo hfr hlo F334_ g335_ g337_ rk338_ (by omega) (⟨by omega, by omega⟩) (⟨by intro h0_; have hs_ := c332_s; rw [sp_a1, if_pos (by omega), pf]; congr 2 <;> omega, fun h0_ => by exfalso; omega⟩)
  refine ga_aload_n (v := .ref 344) hm_173 rfl rfl rfl ?_
  have b342_ : 0 ≤ F 344 21 ∧ F 344 21 ≤ 5 := gi_g hgi rfl
  refine ga_geti (z := F 344 21) hm_173 rfl sc_344 rfl (rfl) ?_
  refine fl_iconst hm_173 rfl ?_
  refine fx_icmp_ne (a := F 344 21) (b := 5) hm_173 rfl ⟨by omega, by omega⟩ ⟨by omega, by omega⟩ (fun h343_ => ?_) (fun h344_ => ?_)
  ·
    have b345_ : 0 ≤ F 344 10 ∧ F 344 10 ≤ 600 := gi_g hgi rfl
    have b346_ : 0 ≤ F 344 5 ∧ F 344 5 ≤ 600 := gi_g hgi rfl
    exact mb_173_13 hG F X hgi K ts pl al ps hgK hrk hkt hp hts hal hpl hps fr lo hfr hlo F hgi fs_refl hrk (by omega) (⟨by omega, by omega⟩) (⟨fun h0_ => by exfalso; omega, fun h0_ => by constructor <;> omega⟩)
  refine ga_aload_n (v := .ref 344) hm_173 rfl rfl rfl ?_
  refine fl_iconst hm_173 rfl ?_
  have b347_ : 0 ≤ F 344 5 ∧ F 344 5 ≤ 600 := gi_g hgi rfl
  refine gVv (nY := 2) (F := 0) (L := 0) (As := [.int (Int32.ofInt 1)]) (b := 344) (rest := []) hm_173 rfl hm_54 rfl rfl (fl_ob sc_344) rfl rfl rfl rfl rfl (by omega) (by omega) (mc_54 hG F X hgi (K) (1) hgK hrk hkt (⟨by omega, by omega⟩) (⟨by omega, by omega⟩)) (fun _ _ h => False.elim h) ?_
  have b349_ : 0 ≤ F 344 10 ∧ F 344 10 ≤ 600 := gi_g hgi rfl
  rintro A1_ ⟨F353_, hA_, g354_, s355_, c350_, c351_, c352_⟩
  subst hA_
  have g356_ : fs [(344, 344, 5, 5), (344, 344, 9, 10), (344, 344, 21, 21), (344, 344, 63, 63), (353, 363, 0, 100000)] F F353_ := fs_tr fs_refl s355_ rfl
  have rk357_ : rk K F353_ := rk_fs hrk s355_ (fs_rg rfl) rfl
  have c351_k := c351_.2 (by omega)
  clear c351_
  have b358_ : 0 ≤ F353_ 344 9 ∧ F353_ 344 9 ≤ 5 := gi_g g354_ rfl
  have b359_ : 0 ≤ F353_ 344 10 ∧ F353_ 344 10 ≤ 600 := gi_g g354_ rfl
  have e360_ : F353_ 344 5 = F 344 5 := (s355_ 344 5 rfl).trans (rfl)
  exact mb_173_13 hG F X hgi K ts pl al ps hgK hrk hkt hp hts hal hpl hps fr lo hfr hlo F353_ g354_ g356_ rk357_ (by omega) (⟨by omega, by omega⟩) (⟨fun h0_ => by exfalso; omega, fun h0_ => by constructor <;> omega⟩)

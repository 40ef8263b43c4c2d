/-! THE START -/
def xi_inst : List (Nat × Nat) := [(1030, 13), (1038, 9), (1075, 8), (1081, 3), (1107, 6), (1188, 3), (1215, 4), (1221, 4), (2013, 7), (2021, 5), (2044, 8), (2125, 14), (2174, 2), (5198, 71), (3084, 6), (4105, 6), (4215, 6), (5105, 6), (5146, 6)]
def xi_ick (ci : Nat) : Bool := match xi_cl[ci]? with
  | some (C, _, _) => xi_Gat (xi_inst.getD ci (0, 0)).1 (.instantiable C (xi_inst.getD ci (0, 0)).2)
  | none => true
theorem xi_ick_all : (List.range 19).all xi_ick = true := by decide +kernel
theorem xi_ick_at {ci : Nat} {C : String} {T : u_T} {N : Nat} (hc : xi_cl[ci]? = some (C, T, N)) : Cond.instantiable C (xi_inst.getD ci (0, 0)).2 ∈ xi_G := by
  have hlt : ci < 19 := (List.getElem?_eq_some_iff.mp hc).1
  have h := List.all_eq_true.mp xi_ick_all ci (List.mem_range.mpr hlt)
  simp only [xi_ick, hc] at h
  exact xi_Gm h
theorem xi_htsG {args : Array Value} {s : State} (hts : ∀ w ∈ lw_tbl, w.before args s = true) : ∀ w ∈ xi_G, w.before args s = true := fun w hw => hts w (List.mem_filter.mp hw).1
theorem xi_set_K {args : Array Value} {s : State} (hts : ∀ w ∈ lw_tbl, w.before args s = true) : ∀ ci : Nat, ∃ q : ClassId × (Nat → Nat), ∀ r : vw_C, xi_cl[ci]? = some r → u_Kn s r.1 r.2.1 r.2.2 q.1 q.2 := by
  intro ci
  cases hc : xi_cl[ci]? with
  | none => exact ⟨(0, fun _ => 0), fun r h => by cases h⟩
  | some r =>
    obtain ⟨C, T, N⟩ := r
    obtain ⟨cC, iS, h⟩ := u_known (xi_htsG hts) (xi_in hc) (xi_htsG hts _ (xi_ick_at hc))
    exact ⟨(cC, iS), fun r hr => by cases hr; exact h⟩
theorem xi_set_A {args : Array Value} {s : State} {ty : FieldType} (h : (Cond.arrayClass ty).before args s = true) : ∃ d : ClassId, ArrOfT s d ty ∧ s.vm.findClass ("[" ++ ty.toString) = some d := by
  obtain ⟨c, k, comp, h1, h2, h3⟩ := Cond.arrayClass_spec h
  exact ⟨c, fun n z => ⟨fun k h => (by cases h), k, h2, comp, h3⟩, h1⟩
theorem xi_set_O {args : Array Value} {s : State} {C : String} (h : (Cond.arrayOver (.object C)).before args s = true) : ∃ d : ClassId, ArrOfT s d (.object C) ∧ va_RA s d (.object C) := by
  obtain ⟨comp, c, k, h1, h2, h3, h4, h5⟩ := Cond.arrayOver_spec h
  exact ⟨c, fun n z => ⟨fun k h => (by cases h), k, h3, comp, h4⟩, k, comp, h3, h4, h1, h5⟩
theorem xi_set_T {args : Array Value} {s : State} (hts : ∀ w ∈ lw_tbl, w.before args s = true) : ∀ t : Nat, ∃ d : ClassId, ∀ ty : FieldType, xi_tyl[t]? = some ty → ArrOfT s d ty ∧ va_RA s d ty
  | 0 => by
    obtain ⟨d, h1, h2⟩ := xi_set_A (ty := .int) (xi_htsG hts _ (xi_Gm (ix := 1072) (by decide +kernel)))
    exact ⟨d, fun ty h => by cases h; exact ⟨h1, h2⟩⟩
  | 1 => by
    obtain ⟨d, h1, h2⟩ := xi_set_A (ty := .long) (xi_htsG hts _ (xi_Gm (ix := 1073) (by decide +kernel)))
    exact ⟨d, fun ty h => by cases h; exact ⟨h1, h2⟩⟩
  | 2 => by
    obtain ⟨d, h1, h2⟩ := xi_set_A (ty := .char) (xi_htsG hts _ (xi_Gm (ix := 1071) (by decide +kernel)))
    exact ⟨d, fun ty h => by cases h; exact ⟨h1, h2⟩⟩
  | 3 => by
    obtain ⟨d, h1, h2⟩ := xi_set_A (ty := .boolean) (xi_htsG hts _ (xi_Gm (ix := 1144) (by decide +kernel)))
    exact ⟨d, fun ty h => by cases h; exact ⟨h1, h2⟩⟩
  | 4 => by
    obtain ⟨d, h1, h2⟩ := xi_set_O (C := "CheapPlanner$Names") (hts _ (xi_part_mem (k := 1) (List.mem_of_getElem? (i := 104) (by decide +kernel))))
    exact ⟨d, fun ty h => by cases h; exact ⟨h1, h2⟩⟩
  | 5 => by
    obtain ⟨d, h1, h2⟩ := xi_set_O (C := "CheapPlanner$Clause") (hts _ (xi_part_mem (k := 1) (List.mem_of_getElem? (i := 106) (by decide +kernel))))
    exact ⟨d, fun ty h => by cases h; exact ⟨h1, h2⟩⟩
  | 6 => by
    obtain ⟨d, h1, h2⟩ := xi_set_O (C := "CheapPlanner$Step") (hts _ (xi_part_mem (k := 2) (List.mem_of_getElem? (i := 19) (by decide +kernel))))
    exact ⟨d, fun ty h => by cases h; exact ⟨h1, h2⟩⟩
  | t + 7 => ⟨0, fun ty h => by simp [xi_tyl] at h⟩
theorem xi_set_S {args : Array Value} {s : State} (hts : ∀ w ∈ lw_tbl, w.before args s = true) (hgv : (Jvm.Cond.and given_1 narrow_1).before args s = true) : ∀ (j : Nat) (q : String × Nat × String), xi_str[j]? = some q → ∃ a : Nat, vk_R q.1 q.2.1 q.2.2 a s
  | 0, q, h => by
    cases h
    obtain ⟨a, -, -, -, h1, -⟩ := Cond.exactly_spec (flat_of_before _ hgv (Cond.exactly (.string "CheapPlanner$Reader" 40) "java/lang/String") (by decide +kernel))
    exact ⟨a, vk_R.of (hts _ (xi_part_mem (k := 3) (List.mem_of_getElem? (i := 70) (by decide +kernel)))) h1⟩
  | 1, q, h => by
    cases h
    obtain ⟨a, -, -, -, h1, -⟩ := Cond.exactly_spec (flat_of_before _ hgv (Cond.exactly (.string "CheapPlanner$Tokens" 78) "java/lang/String") (by decide +kernel))
    exact ⟨a, vk_R.of (hts _ (xi_part_mem (k := 3) (List.mem_of_getElem? (i := 126) (by decide +kernel)))) h1⟩
  | 2, q, h => by
    cases h
    obtain ⟨a, -, -, -, h1, -⟩ := Cond.exactly_spec (flat_of_before _ hgv (Cond.exactly (.string "CheapPlanner$Reader" 80) "java/lang/String") (by decide +kernel))
    exact ⟨a, vk_R.of (hts _ (xi_part_mem (k := 3) (List.mem_of_getElem? (i := 157) (by decide +kernel)))) h1⟩
  | 3, q, h => by
    cases h
    obtain ⟨a, -, -, -, h1, -⟩ := Cond.exactly_spec (flat_of_before _ hgv (Cond.exactly (.string "CheapPlanner$Reader" 58) "java/lang/String") (by decide +kernel))
    exact ⟨a, vk_R.of (hts _ (xi_part_mem (k := 3) (List.mem_of_getElem? (i := 218) (by decide +kernel)))) h1⟩
  | 4, q, h => by
    cases h
    obtain ⟨a, -, -, -, h1, -⟩ := Cond.exactly_spec (flat_of_before _ hgv (Cond.exactly (.string "CheapPlanner$Reader" 93) "java/lang/String") (by decide +kernel))
    exact ⟨a, vk_R.of (hts _ (xi_part_mem (k := 4) (List.mem_of_getElem? (i := 6) (by decide +kernel)))) h1⟩
  | 5, q, h => by
    cases h
    obtain ⟨a, -, -, -, h1, -⟩ := Cond.exactly_spec (flat_of_before _ hgv (Cond.exactly (.string "CheapPlanner$Reader" 145) "java/lang/String") (by decide +kernel))
    exact ⟨a, vk_R.of (hts _ (xi_part_mem (k := 4) (List.mem_of_getElem? (i := 16) (by decide +kernel)))) h1⟩
  | 6, q, h => by
    cases h
    obtain ⟨a, -, -, -, h1, -⟩ := Cond.exactly_spec (flat_of_before _ hgv (Cond.exactly (.string "CheapPlanner$Reader" 105) "java/lang/String") (by decide +kernel))
    exact ⟨a, vk_R.of (hts _ (xi_part_mem (k := 4) (List.mem_of_getElem? (i := 29) (by decide +kernel)))) h1⟩
  | 7, q, h => by
    cases h
    obtain ⟨a, -, -, -, h1, -⟩ := Cond.exactly_spec (flat_of_before _ hgv (Cond.exactly (.string "CheapPlanner$Reader" 110) "java/lang/String") (by decide +kernel))
    exact ⟨a, vk_R.of (hts _ (xi_part_mem (k := 4) (List.mem_of_getElem? (i := 30) (by decide +kernel)))) h1⟩
  | 8, q, h => by
    cases h
    obtain ⟨a, -, -, -, h1, -⟩ := Cond.exactly_spec (flat_of_before _ hgv (Cond.exactly (.string "CheapPlanner$Reader" 125) "java/lang/String") (by decide +kernel))
    exact ⟨a, vk_R.of (hts _ (xi_part_mem (k := 4) (List.mem_of_getElem? (i := 39) (by decide +kernel)))) h1⟩
  | 9, q, h => by
    cases h
    obtain ⟨a, -, -, -, h1, -⟩ := Cond.exactly_spec (flat_of_before _ hgv (Cond.exactly (.string "CheapPlanner$ClauseReader" 41) "java/lang/String") (by decide +kernel))
    exact ⟨a, vk_R.of (hts _ (xi_part_mem (k := 4) (List.mem_of_getElem? (i := 46) (by decide +kernel)))) h1⟩
  | 10, q, h => by
    cases h
    obtain ⟨a, -, -, -, h1, -⟩ := Cond.exactly_spec (flat_of_before _ hgv (Cond.exactly (.string "CheapPlanner$ClauseReader" 58) "java/lang/String") (by decide +kernel))
    exact ⟨a, vk_R.of (hts _ (xi_part_mem (k := 4) (List.mem_of_getElem? (i := 52) (by decide +kernel)))) h1⟩
  | 11, q, h => by
    cases h
    obtain ⟨a, -, -, -, h1, -⟩ := Cond.exactly_spec (flat_of_before _ hgv (Cond.exactly (.string "CheapPlanner$ClauseReader" 115) "java/lang/String") (by decide +kernel))
    exact ⟨a, vk_R.of (hts _ (xi_part_mem (k := 4) (List.mem_of_getElem? (i := 59) (by decide +kernel)))) h1⟩
  | 12, q, h => by
    cases h
    obtain ⟨a, -, -, -, h1, -⟩ := Cond.exactly_spec (flat_of_before _ hgv (Cond.exactly (.string "CheapPlanner$ClauseReader" 64) "java/lang/String") (by decide +kernel))
    exact ⟨a, vk_R.of (hts _ (xi_part_mem (k := 4) (List.mem_of_getElem? (i := 65) (by decide +kernel)))) h1⟩
  | 13, q, h => by
    cases h
    obtain ⟨a, -, -, -, h1, -⟩ := Cond.exactly_spec (flat_of_before _ hgv (Cond.exactly (.string "CheapPlanner$ClauseReader" 66) "java/lang/String") (by decide +kernel))
    exact ⟨a, vk_R.of (hts _ (xi_part_mem (k := 4) (List.mem_of_getElem? (i := 66) (by decide +kernel)))) h1⟩
  | 14, q, h => by
    cases h
    obtain ⟨a, -, -, -, h1, -⟩ := Cond.exactly_spec (flat_of_before _ hgv (Cond.exactly (.string "CheapPlanner$Reader" 134) "java/lang/String") (by decide +kernel))
    exact ⟨a, vk_R.of (hts _ (xi_part_mem (k := 4) (List.mem_of_getElem? (i := 90) (by decide +kernel)))) h1⟩
  | 15, q, h => by
    cases h
    obtain ⟨a, -, -, -, h1, -⟩ := Cond.exactly_spec (flat_of_before _ hgv (Cond.exactly (.string "CheapPlanner" 107) "java/lang/String") (by decide +kernel))
    exact ⟨a, vk_R.of (hts _ (xi_part_mem (k := 4) (List.mem_of_getElem? (i := 113) (by decide +kernel)))) h1⟩
  | 16, q, h => by
    cases h
    obtain ⟨a, -, -, -, h1, -⟩ := Cond.exactly_spec (flat_of_before _ hgv (Cond.exactly (.string "CheapPlanner$Reader" 168) "java/lang/String") (by decide +kernel))
    exact ⟨a, vk_R.of (hts _ (xi_part_mem (k := 4) (List.mem_of_getElem? (i := 130) (by decide +kernel)))) h1⟩
  | 17, q, h => by
    cases h
    obtain ⟨a, -, -, -, h1, -⟩ := Cond.exactly_spec (flat_of_before _ hgv (Cond.exactly (.string "CheapPlanner$Reader" 197) "java/lang/String") (by decide +kernel))
    exact ⟨a, vk_R.of (hts _ (xi_part_mem (k := 4) (List.mem_of_getElem? (i := 135) (by decide +kernel)))) h1⟩
  | 18, q, h => by
    cases h
    obtain ⟨a, -, -, -, h1, -⟩ := Cond.exactly_spec (flat_of_before _ hgv (Cond.exactly (.string "CheapPlanner$Reader" 199) "java/lang/String") (by decide +kernel))
    exact ⟨a, vk_R.of (hts _ (xi_part_mem (k := 4) (List.mem_of_getElem? (i := 144) (by decide +kernel)))) h1⟩
  | 19, q, h => by
    cases h
    obtain ⟨a, -, -, -, h1, -⟩ := Cond.exactly_spec (flat_of_before _ hgv (Cond.exactly (.string "CheapPlanner$Reader" 179) "java/lang/String") (by decide +kernel))
    exact ⟨a, vk_R.of (hts _ (xi_part_mem (k := 4) (List.mem_of_getElem? (i := 145) (by decide +kernel)))) h1⟩
  | 20, q, h => by
    cases h
    obtain ⟨a, -, -, -, h1, -⟩ := Cond.exactly_spec (flat_of_before _ hgv (Cond.exactly (.string "CheapPlanner$Reader" 192) "java/lang/String") (by decide +kernel))
    exact ⟨a, vk_R.of (hts _ (xi_part_mem (k := 4) (List.mem_of_getElem? (i := 150) (by decide +kernel)))) h1⟩
  | 21, q, h => by
    cases h
    obtain ⟨a, -, -, -, h1, -⟩ := Cond.exactly_spec (flat_of_before _ hgv (Cond.exactly (.string "CheapPlanner" 121) "java/lang/String") (by decide +kernel))
    exact ⟨a, vk_R.of (hts _ (xi_part_mem (k := 4) (List.mem_of_getElem? (i := 223) (by decide +kernel)))) h1⟩
  | 22, q, h => by
    cases h
    obtain ⟨a, -, -, -, h1, -⟩ := Cond.exactly_spec (flat_of_before _ hgv (Cond.exactly (.string "CheapPlanner" 229) "java/lang/String") (by decide +kernel))
    exact ⟨a, vk_R.of (hts _ (xi_part_mem (k := 5) (List.mem_of_getElem? (i := 1) (by decide +kernel)))) h1⟩
  | 23, q, h => by
    cases h
    obtain ⟨a, -, -, -, h1, -⟩ := Cond.exactly_spec (flat_of_before _ hgv (Cond.exactly (.string "CheapPlanner" 135) "java/lang/String") (by decide +kernel))
    exact ⟨a, vk_R.of (hts _ (xi_part_mem (k := 5) (List.mem_of_getElem? (i := 3) (by decide +kernel)))) h1⟩
  | 24, q, h => by
    cases h
    obtain ⟨a, -, -, -, h1, -⟩ := Cond.exactly_spec (flat_of_before _ hgv (Cond.exactly (.string "CheapPlanner" 148) "java/lang/String") (by decide +kernel))
    exact ⟨a, vk_R.of (hts _ (xi_part_mem (k := 5) (List.mem_of_getElem? (i := 67) (by decide +kernel)))) h1⟩
  | 25, q, h => by
    cases h
    obtain ⟨a, -, -, -, h1, -⟩ := Cond.exactly_spec (flat_of_before _ hgv (Cond.exactly (.string "CheapPlanner" 173) "java/lang/String") (by decide +kernel))
    exact ⟨a, vk_R.of (hts _ (xi_part_mem (k := 5) (List.mem_of_getElem? (i := 113) (by decide +kernel)))) h1⟩
  | 26, q, h => by
    cases h
    obtain ⟨a, -, -, -, h1, -⟩ := Cond.exactly_spec (flat_of_before _ hgv (Cond.exactly (.string "CheapPlanner" 176) "java/lang/String") (by decide +kernel))
    exact ⟨a, vk_R.of (hts _ (xi_part_mem (k := 5) (List.mem_of_getElem? (i := 127) (by decide +kernel)))) h1⟩
  | 27, q, h => by
    cases h
    obtain ⟨a, -, -, -, h1, -⟩ := Cond.exactly_spec (flat_of_before _ hgv (Cond.exactly (.string "CheapPlanner" 181) "java/lang/String") (by decide +kernel))
    exact ⟨a, vk_R.of (hts _ (xi_part_mem (k := 5) (List.mem_of_getElem? (i := 135) (by decide +kernel)))) h1⟩
  | 28, q, h => by
    cases h
    obtain ⟨a, -, -, -, h1, -⟩ := Cond.exactly_spec (flat_of_before _ hgv (Cond.exactly (.string "CheapPlanner" 183) "java/lang/String") (by decide +kernel))
    exact ⟨a, vk_R.of (hts _ (xi_part_mem (k := 5) (List.mem_of_getElem? (i := 136) (by decide +kernel)))) h1⟩
  | 29, q, h => by
    cases h
    obtain ⟨a, -, -, -, h1, -⟩ := Cond.exactly_spec (flat_of_before _ hgv (Cond.exactly (.string "CheapPlanner" 198) "java/lang/String") (by decide +kernel))
    exact ⟨a, vk_R.of (hts _ (xi_part_mem (k := 5) (List.mem_of_getElem? (i := 154) (by decide +kernel)))) h1⟩
  | j + 30, q, h => by simp [xi_str] at h
def xi_nix : List Nat := [1039, 1189, 2022, 2045, 2050, 3085, 3086, 3087, 3088, 3089, 3090, 3091, 4106, 4216, 5106, 5147]
def xi_nck (k : Nat) : Bool := match xi_nest[k]? with
  | some w => decide ((xi_part ((xi_nix.getD k 0) / 1000))[(xi_nix.getD k 0) % 1000]? = some w) && w.onTables
  | none => true
theorem xi_nck_all : (List.range 16).all xi_nck = true := by decide +kernel
theorem xi_set_N {args : Array Value} {s : State} (hts : ∀ w ∈ lw_tbl, w.before args s = true) : ∀ w ∈ xi_nest, va_Nw w s := by
  intro w hw
  obtain ⟨k, hk⟩ := List.getElem?_of_mem hw
  have hlt : k < 16 := (List.getElem?_eq_some_iff.mp hk).1
  have h := List.all_eq_true.mp xi_nck_all k (List.mem_range.mpr hlt)
  simp only [xi_nck, hk, Bool.and_eq_true, decide_eq_true_eq] at h
  exact va_Nw.of h.2 (hts _ (xi_part_mem (List.mem_of_getElem? h.1)))
theorem xi_set_Q {args : Array Value} {s : State} (hts : ∀ w ∈ lw_tbl, w.before args s = true) (hgv : (Jvm.Cond.and given_1 narrow_1).before args s = true) : ∀ q ∈ xi_stq, va_Zq q.1 q.2.1 q.2.2 (fun x => s.heap.size ≤ x) s s.heap ∧ va_Nw (.laysStatic q.1 q.2.1 q.2.2) s := by
  intro q hq
  simp only [xi_stq, List.mem_cons, List.not_mem_nil, or_false] at hq
  rcases hq with rfl | rfl
  · have h1 : (Cond.laysStatic "java/lang/Throwable" "UNASSIGNED_STACK" "[Ljava/lang/StackTraceElement;").before args s = true := hts _ (xi_part_mem (k := 3) (List.mem_of_getElem? (i := 110) (by decide +kernel)))
    have h2 : (Cond.initialized "java/lang/Throwable").before args s = true := hts _ (xi_part_mem (k := 1) (List.mem_of_getElem? (i := 16) (by decide +kernel)))
    exact ⟨va_Zqof h1 h2 (flat_of_before _ hgv (Cond.isRef (.static "java/lang/Throwable" "UNASSIGNED_STACK" "[Ljava/lang/StackTraceElement;")) (by decide +kernel)) (fun a h1 h2 => Nat.lt_irrefl _ (Nat.lt_of_lt_of_le h1 h2)), show (Cond.laysStatic "java/lang/Throwable" "UNASSIGNED_STACK" "[Ljava/lang/StackTraceElement;").before #[] s = true from h1⟩
  · have h1 : (Cond.laysStatic "java/lang/Throwable" "SUPPRESSED_SENTINEL" "Ljava/util/List;").before args s = true := hts _ (xi_part_mem (k := 3) (List.mem_of_getElem? (i := 112) (by decide +kernel)))
    have h2 : (Cond.initialized "java/lang/Throwable").before args s = true := hts _ (xi_part_mem (k := 1) (List.mem_of_getElem? (i := 16) (by decide +kernel)))
    exact ⟨va_Zqof h1 h2 (flat_of_before _ hgv (Cond.isRef (.static "java/lang/Throwable" "SUPPRESSED_SENTINEL" "Ljava/util/List;")) (by decide +kernel)) (fun a h1 h2 => Nat.lt_irrefl _ (Nat.lt_of_lt_of_le h1 h2)), show (Cond.laysStatic "java/lang/Throwable" "SUPPRESSED_SENTINEL" "Ljava/util/List;").before #[] s = true from h1⟩
theorem xi_set_AO {args : Array Value} {s : State} (hts : ∀ w ∈ lw_tbl, w.before args s = true) : ∀ C ∈ xi_ao, va_AO C s := by
  intro C hC
  simp only [xi_ao, List.mem_cons, List.not_mem_nil, or_false] at hC
  rcases hC with rfl | rfl | rfl
  · exact va_AO.of (hts _ (xi_part_mem (k := 1) (List.mem_of_getElem? (i := 104) (by decide +kernel))))
  · exact va_AO.of (hts _ (xi_part_mem (k := 1) (List.mem_of_getElem? (i := 106) (by decide +kernel))))
  · exact va_AO.of (hts _ (xi_part_mem (k := 2) (List.mem_of_getElem? (i := 19) (by decide +kernel))))
theorem xi_setup {args : Array Value} {s : State} (b : Nat) (hts : ∀ w ∈ lw_tbl, w.before args s = true) (hgv : (Jvm.Cond.and given_1 narrow_1).before args s = true) : ∃ (aS : Nat → Nat) (dA : Nat → ClassId) (D : va_G), aS 30 = b ∧ va_K D xi_cl (xi_tys dA) s ∧ xi_St s.heap.size aS s := by
  classical
  obtain ⟨fK, hK⟩ := Classical.axiomOfChoice (xi_set_K hts)
  obtain ⟨fT, hT⟩ := Classical.axiomOfChoice (xi_set_T hts)
  have hS0 : ∀ j : Nat, ∃ a : Nat, (∀ q, xi_str[j]? = some q → vk_R q.1 q.2.1 q.2.2 a s) ∧ (j = 30 → a = b) := by
    intro j
    cases hj : xi_str[j]? with
    | none => exact ⟨b, (fun q h => by cases h), fun _ => rfl⟩
    | some q =>
      obtain ⟨a, ha⟩ := xi_set_S hts hgv j q hj
      refine ⟨a, (fun q' h => by cases h; exact ha), fun h => ?_⟩
      subst h
      cases hj
  obtain ⟨fS, hS⟩ := Classical.axiomOfChoice hS0
  refine ⟨fS, fT, (fun c => (fK c).1, fun c => (fK c).2), (hS 30).2 rfl, ⟨fun c q hq => hK c q hq, fun k q hk => ?_⟩, fun j q hq => (hS j).1 q hq, xi_set_N hts, xi_set_AO hts, xi_set_Q hts hgv⟩
  match k, hk with
  | 0, hk => cases hk; exact hT 0 _ rfl
  | 1, hk => cases hk; exact hT 1 _ rfl
  | 2, hk => cases hk; exact hT 2 _ rfl
  | 3, hk => cases hk; exact hT 3 _ rfl
  | 4, hk => cases hk; exact hT 4 _ rfl
  | 5, hk => cases hk; exact hT 5 _ rfl
  | 6, hk => cases hk; exact hT 6 _ rfl
  | k + 7, hk => simp [xi_tys] at hk

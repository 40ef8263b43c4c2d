/-! THE START -/
def xi_inst : List (Nat × Nat) := [(1030, 13), (1038, 9), (1075, 8), (1081, 3), (1107, 6), (1188, 3), (1215, 4), (1221, 4), (2013, 7), (2021, 5), (2044, 8), (2125, 14), (2174, 2), (5198, 71), (3084, 6), (4105, 6), (4215, 6), (5105, 6), (5146, 6)]
def xi_ick (ci : Nat) : Bool := match xi_cl[ci]? with
  | some (C, _, _) => xi_Gat (xi_inst.getD ci (0, 0)).1 (.instantiable C (xi_inst.getD ci (0, 0)).2)
  | none => true
theorem xi_ick_all : (List.range 19).all xi_ick = true := by decide +kernel
theorem xi_ick_at {ci : Nat} {C : String} {T : u_T} {N : Nat} (hc : xi_cl[ci]? = some (C, T, N)) : Cond.instantiable C (xi_inst.getD ci (0, 0)).2 ∈ xi_G := by
  have hlt : ci < 19 := (List.getElem?_eq_some_iff.mp hc).1
  have h := List.all_eq_true.mp xi_ick_all ci (List.mem_range.mpr hlt)
  simp only [xi_ick, hc] at h
  exact xi_Gm h
theorem xi_htsG {args : Array Value} {s : State} (hts : ∀ w ∈ lw_tbl, w.before args s = true) : ∀ w ∈ xi_G, w.before args s = true := fun w hw => hts w (List.mem_filter.mp hw).1
theorem xi_set_K {args : Array Value} {s : State} (hts : ∀ w ∈ lw_tbl, w.before args s = true) : ∀ ci : Nat, ∃ q : ClassId × (Nat → Nat), ∀ r : vw_C, xi_cl[ci]? = some r → u_Kn s r.1 r.2.1 r.2.2 q.1 q.2 := by
  intro ci
  cases hc : xi_cl[ci]? with
  | none => exact ⟨(0, fun _ => 0), fun r h => by cases h⟩
  | some r =>
    obtain ⟨C, T, N⟩ := r
    obtain ⟨cC, iS, h⟩ := u_known (xi_htsG hts) (xi_in hc) (xi_htsG hts _ (xi_ick_at hc))
    exact ⟨(cC, iS), fun r hr => by cases hr; exact h⟩
theorem xi_set_A {args : Array Value} {s : State} {ty : FieldType} (h : (Cond.arrayClass ty).before args s = true) : ∃ d : ClassId, ArrOfT s d ty ∧ s.vm.findClass ("[" ++ ty.toString) = some d := by
  obtain ⟨c, k, comp, h1, h2, h3⟩ := Cond.arrayClass_spec h
  exact ⟨c, fun n z => ⟨fun k h => (by cases h), k, h2, comp, h3⟩, h1⟩
theorem xi_set_O {args : Array Value} {s : State} {C : String} (h : (Cond.arrayOver (.object C)).before args s = true) : ∃ d : ClassId, ArrOfT s d (.object C) ∧ va_RA s d (.object C) := by
  obtain ⟨comp, c, k, h1, h2, h3, h4, h5⟩ := Cond.arrayOver_spec h
  exact ⟨c, fun n z => ⟨fun k h => (by cases h), k, h3, comp, h4⟩, k, comp, h3, h4, h1, h5⟩
theorem xi_set_T {args : Array Value} {s : State} (hts : ∀ w ∈ lw_tbl, w.before args s = true) : ∀ t : Nat, ∃ d : ClassId, ∀ ty : FieldType, xi_tyl[t]? = some ty → ArrOfT s d ty ∧ va_RA s d ty
  | 0 => by
    obtain ⟨d, h1, h2⟩ := xi_set_A (ty := .int) (xi_htsG hts _ (xi_Gm (ix := 1072) (by decide +kernel)))
    exact ⟨d, fun ty h => by cases h; exact ⟨h1, h2⟩⟩
  | 1 => by
    obtain ⟨d, h1, h2⟩ := xi_set_A (ty := .long) (xi_htsG hts _ (xi_Gm (ix := 1073) (by decide +kernel)))
    exact ⟨d, fun ty h => by cases h; exact ⟨h1, h2⟩⟩
  | 2 => by
    obtain ⟨d, h1, h2⟩ := xi_set_A (ty := .char) (xi_htsG hts _ (xi_Gm (ix := 1071) (by decide +kernel)))
    exact ⟨d, fun ty h => by cases h; exact ⟨h1, h2⟩⟩
  | 3 => by
    obtain ⟨d, h1, h2⟩ := xi_set_A (ty := .boolean) (xi_htsG hts _ (xi_Gm (ix := 1144) (by decide +kernel)))
    exact ⟨d, fun ty h => by cases h; exact ⟨h1, h2⟩⟩
  | 4 => by
    obtain ⟨d, h1, h2⟩ := xi_set_O (C := "CheapPlanner$Names") (hts _ (xi_part_mem (k := 1) (List.mem_of_getElem? (i := 104) (by decide +kernel))))
    exact ⟨d, fun ty h => by cases h; exact ⟨h1, h2⟩⟩
  | 5 => by
    obtain ⟨d, h1, h2⟩ := xi_set_O (C := "CheapPlanner$Clause") (hts _ (xi_part_mem (k := 1) (List.mem_of_getElem? (i := 106) (by decide +kernel))))
    exact ⟨d, fun ty h => by cases h; exact ⟨h1, h2⟩⟩
  | 6 => by
    obtain ⟨d, h1, h2⟩ := xi_set_O (C := "CheapPlanner$Step") (hts _ (xi_part_mem (k := 2) (List.mem_of_getElem? (i := 19) (by decide +kernel))))
    exact ⟨d, fun ty h => by cases h; exact ⟨h1, h2⟩⟩
  | t + 7 => ⟨0, fun ty h => by simp [xi_tyl] at h⟩
def xi_nix : List Nat := [1039, 1189, 2022, 2045, 2050, 3085, 3086, 3087, 3088, 3089, 3090, 3091, 4106, 4216, 5106, 5147]
def xi_nck (k : Nat) : Bool := match xi_nest[k]? with
  | some w => decide ((xi_part ((xi_nix.getD k 0) / 1000))[(xi_nix.getD k 0) % 1000]? = some w) && w.onTables
  | none => true
theorem xi_nck_all : (List.range 16).all xi_nck = true := by decide +kernel
theorem xi_set_N {args : Array Value} {s : State} (hts : ∀ w ∈ lw_tbl, w.before args s = true) : ∀ w ∈ xi_nest, va_Nw w s := by
  intro w hw
  obtain ⟨k, hk⟩ := List.getElem?_of_mem hw
  have hlt : k < 16 := (List.getElem?_eq_some_iff.mp hk).1
  have h := List.all_eq_true.mp xi_nck_all k (List.mem_range.mpr hlt)
  simp only [xi_nck, hk, Bool.and_eq_true, decide_eq_true_eq] at h
  exact va_Nw.of h.2 (hts _ (xi_part_mem (List.mem_of_getElem? h.1)))
theorem xi_set_Q {args : Array Value} {s : State} (hts : ∀ w ∈ lw_tbl, w.before args s = true) (hgv : (Jvm.Cond.and given_1 narrow_1).before args s = true) : ∀ q ∈ xi_stq, va_Zq q.1 q.2.1 q.2.2 (fun x => s.heap.size ≤ x) s s.heap ∧ va_Nw (.laysStatic q.1 q.2.1 q.2.2) s := by
  intro q hq
  simp only [xi_stq, List.mem_cons, List.not_mem_nil, or_false] at hq
  rcases hq with rfl | rfl
  · have h1 : (Cond.laysStatic "java/lang/Throwable" "UNASSIGNED_STACK" "[Ljava/lang/StackTraceElement;").before args s = true := hts _ (xi_part_mem (k := 3) (List.mem_of_getElem? (i := 110) (by decide +kernel)))
    have h2 : (Cond.initialized "java/lang/Throwable").before args s = true := hts _ (xi_part_mem (k := 1) (List.mem_of_getElem? (i := 16) (by decide +kernel)))
    exact ⟨va_Zqof h1 h2 (flat_of_before _ hgv (Cond.isRef (.static "java/lang/Throwable" "UNASSIGNED_STACK" "[Ljava/lang/StackTraceElement;")) (by decide +kernel)) (fun a h1 h2 => Nat.lt_irrefl _ (Nat.lt_of_lt_of_le h1 h2)), show (Cond.laysStatic "java/lang/Throwable" "UNASSIGNED_STACK" "[Ljava/lang/StackTraceElement;").before #[] s = true from h1⟩
  · have h1 : (Cond.laysStatic "java/lang/Throwable" "SUPPRESSED_SENTINEL" "Ljava/util/List;").before args s = true := hts _ (xi_part_mem (k := 3) (List.mem_of_getElem? (i := 112) (by decide +kernel)))
    have h2 : (Cond.initialized "java/lang/Throwable").before args s = true := hts _ (xi_part_mem (k := 1) (List.mem_of_getElem? (i := 16) (by decide +kernel)))
    exact ⟨va_Zqof h1 h2 (flat_of_before _ hgv (Cond.isRef (.static "java/lang/Throwable" "SUPPRESSED_SENTINEL" "Ljava/util/List;")) (by decide +kernel)) (fun a h1 h2 => Nat.lt_irrefl _ (Nat.lt_of_lt_of_le h1 h2)), show (Cond.laysStatic "java/lang/Throwable" "SUPPRESSED_SENTINEL" "Ljava/util/List;").before #[] s = true from h1⟩
theorem xi_set_AO {args : Array Value} {s : State} (hts : ∀ w ∈ lw_tbl, w.before args s = true) : ∀ C ∈ xi_ao, va_AO C s := by
  intro C hC
  simp only [xi_ao, List.mem_cons, List.not_mem_nil, or_false] at hC
  rcases hC with rfl | rfl | rfl
  · exact va_AO.of (hts _ (xi_part_mem (k := 1) (List.mem_of_getElem? (i := 104) (by decide +kernel))))
  · exact va_AO.of (hts _ (xi_part_mem (k := 1) (List.mem_of_getElem? (i := 106) (by decide +kernel))))
  · exact va_AO.of (hts _ (xi_part_mem (k := 2) (List.mem_of_getElem? (i := 19) (by decide +kernel))))
theorem xi_hA {s : State} : ∀ a : Nat, a < s.heap.size → ¬ (fun x => s.heap.size ≤ x) a := fun a h1 h2 => Nat.lt_irrefl _ (Nat.lt_of_lt_of_le h1 h2)
theorem xi_set_Z {args : Array Value} {s : State} (hts : ∀ w ∈ lw_tbl, w.before args s = true) (hgv : (Jvm.Cond.and given_1 narrow_1).before args s = true) : va_Z "java/lang/String" "COMPACT_STRINGS" "Z" (.int 1) (fun x => s.heap.size ≤ x) s s.heap := by
  have h1 : (Cond.laysStatic "java/lang/String" "COMPACT_STRINGS" "Z").before args s = true := (hts _ (xi_part_mem (k := 3) (List.mem_of_getElem? (i := 175) (by decide +kernel))))
  have h2 : (Cond.initialized "java/lang/String").before args s = true := (hts _ (xi_part_mem (k := 1) (List.mem_of_getElem? (i := 20) (by decide +kernel))))
  exact va_Zof h1 h2 (va_eqt (flat_of_before _ hgv (Cond.eq (.static "java/lang/String" "COMPACT_STRINGS" "Z") (.int 1)) (by decide +kernel))) xi_hA
theorem xi_set_F {args : Array Value} {s : State} (hts : ∀ w ∈ lw_tbl, w.before args s = true) (hgv : (Jvm.Cond.and given_1 narrow_1).before args s = true) : ∃ a : Nat, va_Z "jdk/internal/util/Preconditions" "SIOOBE_FORMATTER" "Ljava/util/function/BiFunction;" .null (fun x => s.heap.size ≤ x) s s.heap ∨ va_Z "jdk/internal/util/Preconditions" "SIOOBE_FORMATTER" "Ljava/util/function/BiFunction;" (.ref a) (fun x => s.heap.size ≤ x) s s.heap := by
  have h1 : (Cond.laysStatic "jdk/internal/util/Preconditions" "SIOOBE_FORMATTER" "Ljava/util/function/BiFunction;").before args s = true := (hts _ (xi_part_mem (k := 3) (List.mem_of_getElem? (i := 191) (by decide +kernel))))
  have h2 : (Cond.initialized "jdk/internal/util/Preconditions").before args s = true := (hts _ (xi_part_mem (k := 1) (List.mem_of_getElem? (i := 22) (by decide +kernel))))
  rcases va_Zqof h1 h2 (flat_of_before _ hgv (Cond.isRef (.static "jdk/internal/util/Preconditions" "SIOOBE_FORMATTER" "Ljava/util/function/BiFunction;")) (by decide +kernel)) xi_hA with h | ⟨t, h⟩
  · exact ⟨0, Or.inl h⟩
  · exact ⟨t, Or.inr h⟩
def xi_tm (q : String × Nat × String) : Term := .string q.1 q.2.1
theorem xi_set_1 {args : Array Value} {s : State} {tm : Term} {t : List Int} (hl : t.length < 100) (h1 : (Cond.exactly tm "java/lang/String").before args s = true) (h2 : (Cond.eq (.field tm "java/lang/String" "coder" "B") (.int 0)).before args s = true) (h3 : (Cond.arrayOf (.field tm "java/lang/String" "value" "[B") .byte).before args s = true) (h4 : (Cond.eq (.length (.field tm "java/lang/String" "value" "[B")) (.int (Int32.ofNat t.length))).before args s = true)
    (h5 : ∀ k : Nat, k < t.length → (Cond.eq (.elem (.field tm "java/lang/String" "value" "[B") (.int (Int32.ofNat k))) (.int (Int32.ofInt (t.getD k 0)))).before args s = true) :
    ∃ q : Nat × Nat, tm.eval args s none [] s = some (.ref q.1) ∧ va_O "java/lang/String" q.1 (fun x => s.heap.size ≤ x) s s.heap ∧ va_OF "java/lang/String" "coder" "B" (.int 0) q.1 (fun x => s.heap.size ≤ x) s s.heap ∧ va_OF "java/lang/String" "value" "[B" (.ref q.2) q.1 (fun x => s.heap.size ≤ x) s s.heap ∧ va_T .byte q.2 t.length (fun k => .int (Int32.ofInt (t.getD k 0))) (fun x => s.heap.size ≤ x) s s.heap := by
  obtain ⟨a, c, cA, kA, q1, q2, q3, q4, q5, q6, -⟩ := Cond.exactly_spec (args := args) (first := s) (o := none) (s := s) (idx := []) (t := tm) (cls := "java/lang/String") h1
  obtain ⟨u, hu, hT⟩ := va_Tof (f := fun k => .int (Int32.ofInt (t.getD k 0))) (A := fun x => s.heap.size ≤ x) (by omega) h3 (va_eqt h4) (fun k hk => va_eqt (h5 k hk)) xi_hA
  exact ⟨(a, u), q1, ⟨cA, q3, q5, by rw [q6]; exact q2, xi_hA a (Array.getElem?_eq_some_iff.mp q3).1⟩, vk_OFof q1 (va_eqt h2) xi_hA, vk_OFof q1 hu xi_hA, hT⟩
def xi_sck5 (tm : Term) (t : List Int) : List Cond := (List.range t.length).map (fun k => Cond.eq (.elem (.field tm "java/lang/String" "value" "[B") (.int (Int32.ofNat k))) (.int (Int32.ofInt (t.getD k 0))))
def xi_sck4 (tm : Term) (t : List Int) : List Cond := [Cond.exactly tm "java/lang/String", Cond.eq (.field tm "java/lang/String" "coder" "B") (.int 0), Cond.arrayOf (.field tm "java/lang/String" "value" "[B") .byte, Cond.eq (.length (.field tm "java/lang/String" "value" "[B")) (.int (Int32.ofNat t.length))]
theorem xi_set_j {args : Array Value} {s : State} {q : String × Nat × String} {t : List Int} (hl : t.length < 100) (hck : ∀ w ∈ xi_sck4 (xi_tm q) t ++ xi_sck5 (xi_tm q) t, w.before args s = true) : ∃ q2 : Nat × Nat, (xi_tm q).eval args s none [] s = some (.ref q2.1) ∧ va_O "java/lang/String" q2.1 (fun x => s.heap.size ≤ x) s s.heap ∧ va_OF "java/lang/String" "coder" "B" (.int 0) q2.1 (fun x => s.heap.size ≤ x) s s.heap ∧ va_OF "java/lang/String" "value" "[B" (.ref q2.2) q2.1 (fun x => s.heap.size ≤ x) s s.heap ∧ va_T .byte q2.2 t.length (fun k => .int (Int32.ofInt (t.getD k 0))) (fun x => s.heap.size ≤ x) s s.heap := by
  have h4 : ∀ w ∈ xi_sck4 (xi_tm q) t, w.before args s = true := fun w hw => hck w (List.mem_append.mpr (Or.inl hw))
  refine xi_set_1 hl (h4 _ (by simp [xi_sck4])) (h4 _ (by simp [xi_sck4])) (h4 _ (by simp [xi_sck4])) (h4 _ (by simp [xi_sck4])) (fun k hk => hck _ (List.mem_append.mpr (Or.inr ?_)))
  exact List.mem_map.mpr ⟨k, List.mem_range.mpr hk, rfl⟩
theorem xi_sk0 {args : Array Value} {s : State} (hgv : (Jvm.Cond.and given_1 narrow_1).before args s = true) : ∀ w ∈ xi_sck4 (xi_tm (xi_str.getD 0 ("", 0, ""))) (xi_tx.getD 0 []) ++ xi_sck5 (xi_tm (xi_str.getD 0 ("", 0, ""))) (xi_tx.getD 0 []), w.before args s = true := fun w hw => flat_of_before _ hgv w ((by decide +kernel : ∀ w ∈ xi_sck4 (xi_tm (xi_str.getD 0 ("", 0, ""))) (xi_tx.getD 0 []) ++ xi_sck5 (xi_tm (xi_str.getD 0 ("", 0, ""))) (xi_tx.getD 0 []), w ∈ flatC (Jvm.Cond.and given_1 narrow_1)) w hw)
theorem xi_sk1 {args : Array Value} {s : State} (hgv : (Jvm.Cond.and given_1 narrow_1).before args s = true) : ∀ w ∈ xi_sck4 (xi_tm (xi_str.getD 1 ("", 0, ""))) (xi_tx.getD 1 []) ++ xi_sck5 (xi_tm (xi_str.getD 1 ("", 0, ""))) (xi_tx.getD 1 []), w.before args s = true := fun w hw => flat_of_before _ hgv w ((by decide +kernel : ∀ w ∈ xi_sck4 (xi_tm (xi_str.getD 1 ("", 0, ""))) (xi_tx.getD 1 []) ++ xi_sck5 (xi_tm (xi_str.getD 1 ("", 0, ""))) (xi_tx.getD 1 []), w ∈ flatC (Jvm.Cond.and given_1 narrow_1)) w hw)
theorem xi_sk2 {args : Array Value} {s : State} (hgv : (Jvm.Cond.and given_1 narrow_1).before args s = true) : ∀ w ∈ xi_sck4 (xi_tm (xi_str.getD 2 ("", 0, ""))) (xi_tx.getD 2 []) ++ xi_sck5 (xi_tm (xi_str.getD 2 ("", 0, ""))) (xi_tx.getD 2 []), w.before args s = true := fun w hw => flat_of_before _ hgv w ((by decide +kernel : ∀ w ∈ xi_sck4 (xi_tm (xi_str.getD 2 ("", 0, ""))) (xi_tx.getD 2 []) ++ xi_sck5 (xi_tm (xi_str.getD 2 ("", 0, ""))) (xi_tx.getD 2 []), w ∈ flatC (Jvm.Cond.and given_1 narrow_1)) w hw)
theorem xi_sk3 {args : Array Value} {s : State} (hgv : (Jvm.Cond.and given_1 narrow_1).before args s = true) : ∀ w ∈ xi_sck4 (xi_tm (xi_str.getD 3 ("", 0, ""))) (xi_tx.getD 3 []) ++ xi_sck5 (xi_tm (xi_str.getD 3 ("", 0, ""))) (xi_tx.getD 3 []), w.before args s = true := fun w hw => flat_of_before _ hgv w ((by decide +kernel : ∀ w ∈ xi_sck4 (xi_tm (xi_str.getD 3 ("", 0, ""))) (xi_tx.getD 3 []) ++ xi_sck5 (xi_tm (xi_str.getD 3 ("", 0, ""))) (xi_tx.getD 3 []), w ∈ flatC (Jvm.Cond.and given_1 narrow_1)) w hw)
theorem xi_sk4 {args : Array Value} {s : State} (hgv : (Jvm.Cond.and given_1 narrow_1).before args s = true) : ∀ w ∈ xi_sck4 (xi_tm (xi_str.getD 4 ("", 0, ""))) (xi_tx.getD 4 []) ++ xi_sck5 (xi_tm (xi_str.getD 4 ("", 0, ""))) (xi_tx.getD 4 []), w.before args s = true := fun w hw => flat_of_before _ hgv w ((by decide +kernel : ∀ w ∈ xi_sck4 (xi_tm (xi_str.getD 4 ("", 0, ""))) (xi_tx.getD 4 []) ++ xi_sck5 (xi_tm (xi_str.getD 4 ("", 0, ""))) (xi_tx.getD 4 []), w ∈ flatC (Jvm.Cond.and given_1 narrow_1)) w hw)
theorem xi_sk5 {args : Array Value} {s : State} (hgv : (Jvm.Cond.and given_1 narrow_1).before args s = true) : ∀ w ∈ xi_sck4 (xi_tm (xi_str.getD 5 ("", 0, ""))) (xi_tx.getD 5 []) ++ xi_sck5 (xi_tm (xi_str.getD 5 ("", 0, ""))) (xi_tx.getD 5 []), w.before args s = true := fun w hw => flat_of_before _ hgv w ((by decide +kernel : ∀ w ∈ xi_sck4 (xi_tm (xi_str.getD 5 ("", 0, ""))) (xi_tx.getD 5 []) ++ xi_sck5 (xi_tm (xi_str.getD 5 ("", 0, ""))) (xi_tx.getD 5 []), w ∈ flatC (Jvm.Cond.and given_1 narrow_1)) w hw)
theorem xi_sk6 {args : Array Value} {s : State} (hgv : (Jvm.Cond.and given_1 narrow_1).before args s = true) : ∀ w ∈ xi_sck4 (xi_tm (xi_str.getD 6 ("", 0, ""))) (xi_tx.getD 6 []) ++ xi_sck5 (xi_tm (xi_str.getD 6 ("", 0, ""))) (xi_tx.getD 6 []), w.before args s = true := fun w hw => flat_of_before _ hgv w ((by decide +kernel : ∀ w ∈ xi_sck4 (xi_tm (xi_str.getD 6 ("", 0, ""))) (xi_tx.getD 6 []) ++ xi_sck5 (xi_tm (xi_str.getD 6 ("", 0, ""))) (xi_tx.getD 6 []), w ∈ flatC (Jvm.Cond.and given_1 narrow_1)) w hw)
theorem xi_sk7 {args : Array Value} {s : State} (hgv : (Jvm.Cond.and given_1 narrow_1).before args s = true) : ∀ w ∈ xi_sck4 (xi_tm (xi_str.getD 7 ("", 0, ""))) (xi_tx.getD 7 []) ++ xi_sck5 (xi_tm (xi_str.getD 7 ("", 0, ""))) (xi_tx.getD 7 []), w.before args s = true := fun w hw => flat_of_before _ hgv w ((by decide +kernel : ∀ w ∈ xi_sck4 (xi_tm (xi_str.getD 7 ("", 0, ""))) (xi_tx.getD 7 []) ++ xi_sck5 (xi_tm (xi_str.getD 7 ("", 0, ""))) (xi_tx.getD 7 []), w ∈ flatC (Jvm.Cond.and given_1 narrow_1)) w hw)
theorem xi_sk8 {args : Array Value} {s : State} (hgv : (Jvm.Cond.and given_1 narrow_1).before args s = true) : ∀ w ∈ xi_sck4 (xi_tm (xi_str.getD 8 ("", 0, ""))) (xi_tx.getD 8 []) ++ xi_sck5 (xi_tm (xi_str.getD 8 ("", 0, ""))) (xi_tx.getD 8 []), w.before args s = true := fun w hw => flat_of_before _ hgv w ((by decide +kernel : ∀ w ∈ xi_sck4 (xi_tm (xi_str.getD 8 ("", 0, ""))) (xi_tx.getD 8 []) ++ xi_sck5 (xi_tm (xi_str.getD 8 ("", 0, ""))) (xi_tx.getD 8 []), w ∈ flatC (Jvm.Cond.and given_1 narrow_1)) w hw)
theorem xi_sk9 {args : Array Value} {s : State} (hgv : (Jvm.Cond.and given_1 narrow_1).before args s = true) : ∀ w ∈ xi_sck4 (xi_tm (xi_str.getD 9 ("", 0, ""))) (xi_tx.getD 9 []) ++ xi_sck5 (xi_tm (xi_str.getD 9 ("", 0, ""))) (xi_tx.getD 9 []), w.before args s = true := fun w hw => flat_of_before _ hgv w ((by decide +kernel : ∀ w ∈ xi_sck4 (xi_tm (xi_str.getD 9 ("", 0, ""))) (xi_tx.getD 9 []) ++ xi_sck5 (xi_tm (xi_str.getD 9 ("", 0, ""))) (xi_tx.getD 9 []), w ∈ flatC (Jvm.Cond.and given_1 narrow_1)) w hw)
theorem xi_sk10 {args : Array Value} {s : State} (hgv : (Jvm.Cond.and given_1 narrow_1).before args s = true) : ∀ w ∈ xi_sck4 (xi_tm (xi_str.getD 10 ("", 0, ""))) (xi_tx.getD 10 []) ++ xi_sck5 (xi_tm (xi_str.getD 10 ("", 0, ""))) (xi_tx.getD 10 []), w.before args s = true := fun w hw => flat_of_before _ hgv w ((by decide +kernel : ∀ w ∈ xi_sck4 (xi_tm (xi_str.getD 10 ("", 0, ""))) (xi_tx.getD 10 []) ++ xi_sck5 (xi_tm (xi_str.getD 10 ("", 0, ""))) (xi_tx.getD 10 []), w ∈ flatC (Jvm.Cond.and given_1 narrow_1)) w hw)
theorem xi_sk11 {args : Array Value} {s : State} (hgv : (Jvm.Cond.and given_1 narrow_1).before args s = true) : ∀ w ∈ xi_sck4 (xi_tm (xi_str.getD 11 ("", 0, ""))) (xi_tx.getD 11 []) ++ xi_sck5 (xi_tm (xi_str.getD 11 ("", 0, ""))) (xi_tx.getD 11 []), w.before args s = true := fun w hw => flat_of_before _ hgv w ((by decide +kernel : ∀ w ∈ xi_sck4 (xi_tm (xi_str.getD 11 ("", 0, ""))) (xi_tx.getD 11 []) ++ xi_sck5 (xi_tm (xi_str.getD 11 ("", 0, ""))) (xi_tx.getD 11 []), w ∈ flatC (Jvm.Cond.and given_1 narrow_1)) w hw)
theorem xi_sk12 {args : Array Value} {s : State} (hgv : (Jvm.Cond.and given_1 narrow_1).before args s = true) : ∀ w ∈ xi_sck4 (xi_tm (xi_str.getD 12 ("", 0, ""))) (xi_tx.getD 12 []) ++ xi_sck5 (xi_tm (xi_str.getD 12 ("", 0, ""))) (xi_tx.getD 12 []), w.before args s = true := fun w hw => flat_of_before _ hgv w ((by decide +kernel : ∀ w ∈ xi_sck4 (xi_tm (xi_str.getD 12 ("", 0, ""))) (xi_tx.getD 12 []) ++ xi_sck5 (xi_tm (xi_str.getD 12 ("", 0, ""))) (xi_tx.getD 12 []), w ∈ flatC (Jvm.Cond.and given_1 narrow_1)) w hw)
theorem xi_sk13 {args : Array Value} {s : State} (hgv : (Jvm.Cond.and given_1 narrow_1).before args s = true) : ∀ w ∈ xi_sck4 (xi_tm (xi_str.getD 13 ("", 0, ""))) (xi_tx.getD 13 []) ++ xi_sck5 (xi_tm (xi_str.getD 13 ("", 0, ""))) (xi_tx.getD 13 []), w.before args s = true := fun w hw => flat_of_before _ hgv w ((by decide +kernel : ∀ w ∈ xi_sck4 (xi_tm (xi_str.getD 13 ("", 0, ""))) (xi_tx.getD 13 []) ++ xi_sck5 (xi_tm (xi_str.getD 13 ("", 0, ""))) (xi_tx.getD 13 []), w ∈ flatC (Jvm.Cond.and given_1 narrow_1)) w hw)
theorem xi_sk14 {args : Array Value} {s : State} (hgv : (Jvm.Cond.and given_1 narrow_1).before args s = true) : ∀ w ∈ xi_sck4 (xi_tm (xi_str.getD 14 ("", 0, ""))) (xi_tx.getD 14 []) ++ xi_sck5 (xi_tm (xi_str.getD 14 ("", 0, ""))) (xi_tx.getD 14 []), w.before args s = true := fun w hw => flat_of_before _ hgv w ((by decide +kernel : ∀ w ∈ xi_sck4 (xi_tm (xi_str.getD 14 ("", 0, ""))) (xi_tx.getD 14 []) ++ xi_sck5 (xi_tm (xi_str.getD 14 ("", 0, ""))) (xi_tx.getD 14 []), w ∈ flatC (Jvm.Cond.and given_1 narrow_1)) w hw)
theorem xi_sk15 {args : Array Value} {s : State} (hgv : (Jvm.Cond.and given_1 narrow_1).before args s = true) : ∀ w ∈ xi_sck4 (xi_tm (xi_str.getD 15 ("", 0, ""))) (xi_tx.getD 15 []) ++ xi_sck5 (xi_tm (xi_str.getD 15 ("", 0, ""))) (xi_tx.getD 15 []), w.before args s = true := fun w hw => flat_of_before _ hgv w ((by decide +kernel : ∀ w ∈ xi_sck4 (xi_tm (xi_str.getD 15 ("", 0, ""))) (xi_tx.getD 15 []) ++ xi_sck5 (xi_tm (xi_str.getD 15 ("", 0, ""))) (xi_tx.getD 15 []), w ∈ flatC (Jvm.Cond.and given_1 narrow_1)) w hw)
theorem xi_sk16 {args : Array Value} {s : State} (hgv : (Jvm.Cond.and given_1 narrow_1).before args s = true) : ∀ w ∈ xi_sck4 (xi_tm (xi_str.getD 16 ("", 0, ""))) (xi_tx.getD 16 []) ++ xi_sck5 (xi_tm (xi_str.getD 16 ("", 0, ""))) (xi_tx.getD 16 []), w.before args s = true := fun w hw => flat_of_before _ hgv w ((by decide +kernel : ∀ w ∈ xi_sck4 (xi_tm (xi_str.getD 16 ("", 0, ""))) (xi_tx.getD 16 []) ++ xi_sck5 (xi_tm (xi_str.getD 16 ("", 0, ""))) (xi_tx.getD 16 []), w ∈ flatC (Jvm.Cond.and given_1 narrow_1)) w hw)
theorem xi_sk17 {args : Array Value} {s : State} (hgv : (Jvm.Cond.and given_1 narrow_1).before args s = true) : ∀ w ∈ xi_sck4 (xi_tm (xi_str.getD 17 ("", 0, ""))) (xi_tx.getD 17 []) ++ xi_sck5 (xi_tm (xi_str.getD 17 ("", 0, ""))) (xi_tx.getD 17 []), w.before args s = true := fun w hw => flat_of_before _ hgv w ((by decide +kernel : ∀ w ∈ xi_sck4 (xi_tm (xi_str.getD 17 ("", 0, ""))) (xi_tx.getD 17 []) ++ xi_sck5 (xi_tm (xi_str.getD 17 ("", 0, ""))) (xi_tx.getD 17 []), w ∈ flatC (Jvm.Cond.and given_1 narrow_1)) w hw)
theorem xi_sk18 {args : Array Value} {s : State} (hgv : (Jvm.Cond.and given_1 narrow_1).before args s = true) : ∀ w ∈ xi_sck4 (xi_tm (xi_str.getD 18 ("", 0, ""))) (xi_tx.getD 18 []) ++ xi_sck5 (xi_tm (xi_str.getD 18 ("", 0, ""))) (xi_tx.getD 18 []), w.before args s = true := fun w hw => flat_of_before _ hgv w ((by decide +kernel : ∀ w ∈ xi_sck4 (xi_tm (xi_str.getD 18 ("", 0, ""))) (xi_tx.getD 18 []) ++ xi_sck5 (xi_tm (xi_str.getD 18 ("", 0, ""))) (xi_tx.getD 18 []), w ∈ flatC (Jvm.Cond.and given_1 narrow_1)) w hw)
theorem xi_sk19 {args : Array Value} {s : State} (hgv : (Jvm.Cond.and given_1 narrow_1).before args s = true) : ∀ w ∈ xi_sck4 (xi_tm (xi_str.getD 19 ("", 0, ""))) (xi_tx.getD 19 []) ++ xi_sck5 (xi_tm (xi_str.getD 19 ("", 0, ""))) (xi_tx.getD 19 []), w.before args s = true := fun w hw => flat_of_before _ hgv w ((by decide +kernel : ∀ w ∈ xi_sck4 (xi_tm (xi_str.getD 19 ("", 0, ""))) (xi_tx.getD 19 []) ++ xi_sck5 (xi_tm (xi_str.getD 19 ("", 0, ""))) (xi_tx.getD 19 []), w ∈ flatC (Jvm.Cond.and given_1 narrow_1)) w hw)
theorem xi_sk20 {args : Array Value} {s : State} (hgv : (Jvm.Cond.and given_1 narrow_1).before args s = true) : ∀ w ∈ xi_sck4 (xi_tm (xi_str.getD 20 ("", 0, ""))) (xi_tx.getD 20 []) ++ xi_sck5 (xi_tm (xi_str.getD 20 ("", 0, ""))) (xi_tx.getD 20 []), w.before args s = true := fun w hw => flat_of_before _ hgv w ((by decide +kernel : ∀ w ∈ xi_sck4 (xi_tm (xi_str.getD 20 ("", 0, ""))) (xi_tx.getD 20 []) ++ xi_sck5 (xi_tm (xi_str.getD 20 ("", 0, ""))) (xi_tx.getD 20 []), w ∈ flatC (Jvm.Cond.and given_1 narrow_1)) w hw)
theorem xi_sk21 {args : Array Value} {s : State} (hgv : (Jvm.Cond.and given_1 narrow_1).before args s = true) : ∀ w ∈ xi_sck4 (xi_tm (xi_str.getD 21 ("", 0, ""))) (xi_tx.getD 21 []) ++ xi_sck5 (xi_tm (xi_str.getD 21 ("", 0, ""))) (xi_tx.getD 21 []), w.before args s = true := fun w hw => flat_of_before _ hgv w ((by decide +kernel : ∀ w ∈ xi_sck4 (xi_tm (xi_str.getD 21 ("", 0, ""))) (xi_tx.getD 21 []) ++ xi_sck5 (xi_tm (xi_str.getD 21 ("", 0, ""))) (xi_tx.getD 21 []), w ∈ flatC (Jvm.Cond.and given_1 narrow_1)) w hw)
theorem xi_sk22 {args : Array Value} {s : State} (hgv : (Jvm.Cond.and given_1 narrow_1).before args s = true) : ∀ w ∈ xi_sck4 (xi_tm (xi_str.getD 22 ("", 0, ""))) (xi_tx.getD 22 []) ++ xi_sck5 (xi_tm (xi_str.getD 22 ("", 0, ""))) (xi_tx.getD 22 []), w.before args s = true := fun w hw => flat_of_before _ hgv w ((by decide +kernel : ∀ w ∈ xi_sck4 (xi_tm (xi_str.getD 22 ("", 0, ""))) (xi_tx.getD 22 []) ++ xi_sck5 (xi_tm (xi_str.getD 22 ("", 0, ""))) (xi_tx.getD 22 []), w ∈ flatC (Jvm.Cond.and given_1 narrow_1)) w hw)
theorem xi_sk23 {args : Array Value} {s : State} (hgv : (Jvm.Cond.and given_1 narrow_1).before args s = true) : ∀ w ∈ xi_sck4 (xi_tm (xi_str.getD 23 ("", 0, ""))) (xi_tx.getD 23 []) ++ xi_sck5 (xi_tm (xi_str.getD 23 ("", 0, ""))) (xi_tx.getD 23 []), w.before args s = true := fun w hw => flat_of_before _ hgv w ((by decide +kernel : ∀ w ∈ xi_sck4 (xi_tm (xi_str.getD 23 ("", 0, ""))) (xi_tx.getD 23 []) ++ xi_sck5 (xi_tm (xi_str.getD 23 ("", 0, ""))) (xi_tx.getD 23 []), w ∈ flatC (Jvm.Cond.and given_1 narrow_1)) w hw)
theorem xi_sk24 {args : Array Value} {s : State} (hgv : (Jvm.Cond.and given_1 narrow_1).before args s = true) : ∀ w ∈ xi_sck4 (xi_tm (xi_str.getD 24 ("", 0, ""))) (xi_tx.getD 24 []) ++ xi_sck5 (xi_tm (xi_str.getD 24 ("", 0, ""))) (xi_tx.getD 24 []), w.before args s = true := fun w hw => flat_of_before _ hgv w ((by decide +kernel : ∀ w ∈ xi_sck4 (xi_tm (xi_str.getD 24 ("", 0, ""))) (xi_tx.getD 24 []) ++ xi_sck5 (xi_tm (xi_str.getD 24 ("", 0, ""))) (xi_tx.getD 24 []), w ∈ flatC (Jvm.Cond.and given_1 narrow_1)) w hw)
theorem xi_sk25 {args : Array Value} {s : State} (hgv : (Jvm.Cond.and given_1 narrow_1).before args s = true) : ∀ w ∈ xi_sck4 (xi_tm (xi_str.getD 25 ("", 0, ""))) (xi_tx.getD 25 []) ++ xi_sck5 (xi_tm (xi_str.getD 25 ("", 0, ""))) (xi_tx.getD 25 []), w.before args s = true := fun w hw => flat_of_before _ hgv w ((by decide +kernel : ∀ w ∈ xi_sck4 (xi_tm (xi_str.getD 25 ("", 0, ""))) (xi_tx.getD 25 []) ++ xi_sck5 (xi_tm (xi_str.getD 25 ("", 0, ""))) (xi_tx.getD 25 []), w ∈ flatC (Jvm.Cond.and given_1 narrow_1)) w hw)
theorem xi_sk26 {args : Array Value} {s : State} (hgv : (Jvm.Cond.and given_1 narrow_1).before args s = true) : ∀ w ∈ xi_sck4 (xi_tm (xi_str.getD 26 ("", 0, ""))) (xi_tx.getD 26 []) ++ xi_sck5 (xi_tm (xi_str.getD 26 ("", 0, ""))) (xi_tx.getD 26 []), w.before args s = true := fun w hw => flat_of_before _ hgv w ((by decide +kernel : ∀ w ∈ xi_sck4 (xi_tm (xi_str.getD 26 ("", 0, ""))) (xi_tx.getD 26 []) ++ xi_sck5 (xi_tm (xi_str.getD 26 ("", 0, ""))) (xi_tx.getD 26 []), w ∈ flatC (Jvm.Cond.and given_1 narrow_1)) w hw)
theorem xi_sk27 {args : Array Value} {s : State} (hgv : (Jvm.Cond.and given_1 narrow_1).before args s = true) : ∀ w ∈ xi_sck4 (xi_tm (xi_str.getD 27 ("", 0, ""))) (xi_tx.getD 27 []) ++ xi_sck5 (xi_tm (xi_str.getD 27 ("", 0, ""))) (xi_tx.getD 27 []), w.before args s = true := fun w hw => flat_of_before _ hgv w ((by decide +kernel : ∀ w ∈ xi_sck4 (xi_tm (xi_str.getD 27 ("", 0, ""))) (xi_tx.getD 27 []) ++ xi_sck5 (xi_tm (xi_str.getD 27 ("", 0, ""))) (xi_tx.getD 27 []), w ∈ flatC (Jvm.Cond.and given_1 narrow_1)) w hw)
theorem xi_sk28 {args : Array Value} {s : State} (hgv : (Jvm.Cond.and given_1 narrow_1).before args s = true) : ∀ w ∈ xi_sck4 (xi_tm (xi_str.getD 28 ("", 0, ""))) (xi_tx.getD 28 []) ++ xi_sck5 (xi_tm (xi_str.getD 28 ("", 0, ""))) (xi_tx.getD 28 []), w.before args s = true := fun w hw => flat_of_before _ hgv w ((by decide +kernel : ∀ w ∈ xi_sck4 (xi_tm (xi_str.getD 28 ("", 0, ""))) (xi_tx.getD 28 []) ++ xi_sck5 (xi_tm (xi_str.getD 28 ("", 0, ""))) (xi_tx.getD 28 []), w ∈ flatC (Jvm.Cond.and given_1 narrow_1)) w hw)
theorem xi_sk29 {args : Array Value} {s : State} (hgv : (Jvm.Cond.and given_1 narrow_1).before args s = true) : ∀ w ∈ xi_sck4 (xi_tm (xi_str.getD 29 ("", 0, ""))) (xi_tx.getD 29 []) ++ xi_sck5 (xi_tm (xi_str.getD 29 ("", 0, ""))) (xi_tx.getD 29 []), w.before args s = true := fun w hw => flat_of_before _ hgv w ((by decide +kernel : ∀ w ∈ xi_sck4 (xi_tm (xi_str.getD 29 ("", 0, ""))) (xi_tx.getD 29 []) ++ xi_sck5 (xi_tm (xi_str.getD 29 ("", 0, ""))) (xi_tx.getD 29 []), w ∈ flatC (Jvm.Cond.and given_1 narrow_1)) w hw)
theorem xi_set_X {args : Array Value} {s : State} (hts : ∀ w ∈ lw_tbl, w.before args s = true) (hgv : (Jvm.Cond.and given_1 narrow_1).before args s = true) : ∀ (j : Nat), j < 30 → ∃ q2 : Nat × Nat, vk_R (xi_str.getD j ("", 0, "")).1 (xi_str.getD j ("", 0, "")).2.1 (xi_str.getD j ("", 0, "")).2.2 q2.1 s ∧ va_O "java/lang/String" q2.1 (fun x => s.heap.size ≤ x) s s.heap ∧ va_OF "java/lang/String" "coder" "B" (.int 0) q2.1 (fun x => s.heap.size ≤ x) s s.heap ∧ va_OF "java/lang/String" "value" "[B" (.ref q2.2) q2.1 (fun x => s.heap.size ≤ x) s s.heap ∧ va_T .byte q2.2 (xi_tx.getD j []).length (fun k => .int (Int32.ofInt ((xi_tx.getD j []).getD k 0))) (fun x => s.heap.size ≤ x) s s.heap
  | 0, _ => by
    obtain ⟨q2, h1, h2⟩ := xi_set_j (q := xi_str.getD 0 ("", 0, "")) (t := xi_tx.getD 0 []) (by decide) (xi_sk0 hgv)
    exact ⟨q2, vk_R.of (hts _ (xi_part_mem (k := 3) (List.mem_of_getElem? (i := 70) (by decide +kernel)))) h1, h2⟩
  | 1, _ => by
    obtain ⟨q2, h1, h2⟩ := xi_set_j (q := xi_str.getD 1 ("", 0, "")) (t := xi_tx.getD 1 []) (by decide) (xi_sk1 hgv)
    exact ⟨q2, vk_R.of (hts _ (xi_part_mem (k := 3) (List.mem_of_getElem? (i := 126) (by decide +kernel)))) h1, h2⟩
  | 2, _ => by
    obtain ⟨q2, h1, h2⟩ := xi_set_j (q := xi_str.getD 2 ("", 0, "")) (t := xi_tx.getD 2 []) (by decide) (xi_sk2 hgv)
    exact ⟨q2, vk_R.of (hts _ (xi_part_mem (k := 3) (List.mem_of_getElem? (i := 157) (by decide +kernel)))) h1, h2⟩
  | 3, _ => by
    obtain ⟨q2, h1, h2⟩ := xi_set_j (q := xi_str.getD 3 ("", 0, "")) (t := xi_tx.getD 3 []) (by decide) (xi_sk3 hgv)
    exact ⟨q2, vk_R.of (hts _ (xi_part_mem (k := 3) (List.mem_of_getElem? (i := 218) (by decide +kernel)))) h1, h2⟩
  | 4, _ => by
    obtain ⟨q2, h1, h2⟩ := xi_set_j (q := xi_str.getD 4 ("", 0, "")) (t := xi_tx.getD 4 []) (by decide) (xi_sk4 hgv)
    exact ⟨q2, vk_R.of (hts _ (xi_part_mem (k := 4) (List.mem_of_getElem? (i := 6) (by decide +kernel)))) h1, h2⟩
  | 5, _ => by
    obtain ⟨q2, h1, h2⟩ := xi_set_j (q := xi_str.getD 5 ("", 0, "")) (t := xi_tx.getD 5 []) (by decide) (xi_sk5 hgv)
    exact ⟨q2, vk_R.of (hts _ (xi_part_mem (k := 4) (List.mem_of_getElem? (i := 16) (by decide +kernel)))) h1, h2⟩
  | 6, _ => by
    obtain ⟨q2, h1, h2⟩ := xi_set_j (q := xi_str.getD 6 ("", 0, "")) (t := xi_tx.getD 6 []) (by decide) (xi_sk6 hgv)
    exact ⟨q2, vk_R.of (hts _ (xi_part_mem (k := 4) (List.mem_of_getElem? (i := 29) (by decide +kernel)))) h1, h2⟩
  | 7, _ => by
    obtain ⟨q2, h1, h2⟩ := xi_set_j (q := xi_str.getD 7 ("", 0, "")) (t := xi_tx.getD 7 []) (by decide) (xi_sk7 hgv)
    exact ⟨q2, vk_R.of (hts _ (xi_part_mem (k := 4) (List.mem_of_getElem? (i := 30) (by decide +kernel)))) h1, h2⟩
  | 8, _ => by
    obtain ⟨q2, h1, h2⟩ := xi_set_j (q := xi_str.getD 8 ("", 0, "")) (t := xi_tx.getD 8 []) (by decide) (xi_sk8 hgv)
    exact ⟨q2, vk_R.of (hts _ (xi_part_mem (k := 4) (List.mem_of_getElem? (i := 39) (by decide +kernel)))) h1, h2⟩
  | 9, _ => by
    obtain ⟨q2, h1, h2⟩ := xi_set_j (q := xi_str.getD 9 ("", 0, "")) (t := xi_tx.getD 9 []) (by decide) (xi_sk9 hgv)
    exact ⟨q2, vk_R.of (hts _ (xi_part_mem (k := 4) (List.mem_of_getElem? (i := 46) (by decide +kernel)))) h1, h2⟩
  | 10, _ => by
    obtain ⟨q2, h1, h2⟩ := xi_set_j (q := xi_str.getD 10 ("", 0, "")) (t := xi_tx.getD 10 []) (by decide) (xi_sk10 hgv)
    exact ⟨q2, vk_R.of (hts _ (xi_part_mem (k := 4) (List.mem_of_getElem? (i := 52) (by decide +kernel)))) h1, h2⟩
  | 11, _ => by
    obtain ⟨q2, h1, h2⟩ := xi_set_j (q := xi_str.getD 11 ("", 0, "")) (t := xi_tx.getD 11 []) (by decide) (xi_sk11 hgv)
    exact ⟨q2, vk_R.of (hts _ (xi_part_mem (k := 4) (List.mem_of_getElem? (i := 59) (by decide +kernel)))) h1, h2⟩
  | 12, _ => by
    obtain ⟨q2, h1, h2⟩ := xi_set_j (q := xi_str.getD 12 ("", 0, "")) (t := xi_tx.getD 12 []) (by decide) (xi_sk12 hgv)
    exact ⟨q2, vk_R.of (hts _ (xi_part_mem (k := 4) (List.mem_of_getElem? (i := 65) (by decide +kernel)))) h1, h2⟩
  | 13, _ => by
    obtain ⟨q2, h1, h2⟩ := xi_set_j (q := xi_str.getD 13 ("", 0, "")) (t := xi_tx.getD 13 []) (by decide) (xi_sk13 hgv)
    exact ⟨q2, vk_R.of (hts _ (xi_part_mem (k := 4) (List.mem_of_getElem? (i := 66) (by decide +kernel)))) h1, h2⟩
  | 14, _ => by
    obtain ⟨q2, h1, h2⟩ := xi_set_j (q := xi_str.getD 14 ("", 0, "")) (t := xi_tx.getD 14 []) (by decide) (xi_sk14 hgv)
    exact ⟨q2, vk_R.of (hts _ (xi_part_mem (k := 4) (List.mem_of_getElem? (i := 90) (by decide +kernel)))) h1, h2⟩
  | 15, _ => by
    obtain ⟨q2, h1, h2⟩ := xi_set_j (q := xi_str.getD 15 ("", 0, "")) (t := xi_tx.getD 15 []) (by decide) (xi_sk15 hgv)
    exact ⟨q2, vk_R.of (hts _ (xi_part_mem (k := 4) (List.mem_of_getElem? (i := 113) (by decide +kernel)))) h1, h2⟩
  | 16, _ => by
    obtain ⟨q2, h1, h2⟩ := xi_set_j (q := xi_str.getD 16 ("", 0, "")) (t := xi_tx.getD 16 []) (by decide) (xi_sk16 hgv)
    exact ⟨q2, vk_R.of (hts _ (xi_part_mem (k := 4) (List.mem_of_getElem? (i := 130) (by decide +kernel)))) h1, h2⟩
  | 17, _ => by
    obtain ⟨q2, h1, h2⟩ := xi_set_j (q := xi_str.getD 17 ("", 0, "")) (t := xi_tx.getD 17 []) (by decide) (xi_sk17 hgv)
    exact ⟨q2, vk_R.of (hts _ (xi_part_mem (k := 4) (List.mem_of_getElem? (i := 135) (by decide +kernel)))) h1, h2⟩
  | 18, _ => by
    obtain ⟨q2, h1, h2⟩ := xi_set_j (q := xi_str.getD 18 ("", 0, "")) (t := xi_tx.getD 18 []) (by decide) (xi_sk18 hgv)
    exact ⟨q2, vk_R.of (hts _ (xi_part_mem (k := 4) (List.mem_of_getElem? (i := 144) (by decide +kernel)))) h1, h2⟩
  | 19, _ => by
    obtain ⟨q2, h1, h2⟩ := xi_set_j (q := xi_str.getD 19 ("", 0, "")) (t := xi_tx.getD 19 []) (by decide) (xi_sk19 hgv)
    exact ⟨q2, vk_R.of (hts _ (xi_part_mem (k := 4) (List.mem_of_getElem? (i := 145) (by decide +kernel)))) h1, h2⟩
  | 20, _ => by
    obtain ⟨q2, h1, h2⟩ := xi_set_j (q := xi_str.getD 20 ("", 0, "")) (t := xi_tx.getD 20 []) (by decide) (xi_sk20 hgv)
    exact ⟨q2, vk_R.of (hts _ (xi_part_mem (k := 4) (List.mem_of_getElem? (i := 150) (by decide +kernel)))) h1, h2⟩
  | 21, _ => by
    obtain ⟨q2, h1, h2⟩ := xi_set_j (q := xi_str.getD 21 ("", 0, "")) (t := xi_tx.getD 21 []) (by decide) (xi_sk21 hgv)
    exact ⟨q2, vk_R.of (hts _ (xi_part_mem (k := 4) (List.mem_of_getElem? (i := 223) (by decide +kernel)))) h1, h2⟩
  | 22, _ => by
    obtain ⟨q2, h1, h2⟩ := xi_set_j (q := xi_str.getD 22 ("", 0, "")) (t := xi_tx.getD 22 []) (by decide) (xi_sk22 hgv)
    exact ⟨q2, vk_R.of (hts _ (xi_part_mem (k := 5) (List.mem_of_getElem? (i := 1) (by decide +kernel)))) h1, h2⟩
  | 23, _ => by
    obtain ⟨q2, h1, h2⟩ := xi_set_j (q := xi_str.getD 23 ("", 0, "")) (t := xi_tx.getD 23 []) (by decide) (xi_sk23 hgv)
    exact ⟨q2, vk_R.of (hts _ (xi_part_mem (k := 5) (List.mem_of_getElem? (i := 3) (by decide +kernel)))) h1, h2⟩
  | 24, _ => by
    obtain ⟨q2, h1, h2⟩ := xi_set_j (q := xi_str.getD 24 ("", 0, "")) (t := xi_tx.getD 24 []) (by decide) (xi_sk24 hgv)
    exact ⟨q2, vk_R.of (hts _ (xi_part_mem (k := 5) (List.mem_of_getElem? (i := 67) (by decide +kernel)))) h1, h2⟩
  | 25, _ => by
    obtain ⟨q2, h1, h2⟩ := xi_set_j (q := xi_str.getD 25 ("", 0, "")) (t := xi_tx.getD 25 []) (by decide) (xi_sk25 hgv)
    exact ⟨q2, vk_R.of (hts _ (xi_part_mem (k := 5) (List.mem_of_getElem? (i := 113) (by decide +kernel)))) h1, h2⟩
  | 26, _ => by
    obtain ⟨q2, h1, h2⟩ := xi_set_j (q := xi_str.getD 26 ("", 0, "")) (t := xi_tx.getD 26 []) (by decide) (xi_sk26 hgv)
    exact ⟨q2, vk_R.of (hts _ (xi_part_mem (k := 5) (List.mem_of_getElem? (i := 127) (by decide +kernel)))) h1, h2⟩
  | 27, _ => by
    obtain ⟨q2, h1, h2⟩ := xi_set_j (q := xi_str.getD 27 ("", 0, "")) (t := xi_tx.getD 27 []) (by decide) (xi_sk27 hgv)
    exact ⟨q2, vk_R.of (hts _ (xi_part_mem (k := 5) (List.mem_of_getElem? (i := 135) (by decide +kernel)))) h1, h2⟩
  | 28, _ => by
    obtain ⟨q2, h1, h2⟩ := xi_set_j (q := xi_str.getD 28 ("", 0, "")) (t := xi_tx.getD 28 []) (by decide) (xi_sk28 hgv)
    exact ⟨q2, vk_R.of (hts _ (xi_part_mem (k := 5) (List.mem_of_getElem? (i := 136) (by decide +kernel)))) h1, h2⟩
  | 29, _ => by
    obtain ⟨q2, h1, h2⟩ := xi_set_j (q := xi_str.getD 29 ("", 0, "")) (t := xi_tx.getD 29 []) (by decide) (xi_sk29 hgv)
    exact ⟨q2, vk_R.of (hts _ (xi_part_mem (k := 5) (List.mem_of_getElem? (i := 154) (by decide +kernel)))) h1, h2⟩
  | j + 30, h => absurd h (by omega)
theorem xi_set_C {args : Array Value} {s : State} (hgv : (Jvm.Cond.and given_1 narrow_1).before args s = true) : ∀ q ∈ xi_ncp, va_Nc q.1 q.2 s := by
  intro q hq
  simp only [xi_ncp, List.mem_cons, List.not_mem_nil, or_false] at hq
  rcases hq with rfl | rfl | rfl | rfl
  · exact va_Nc.of (flat_of_before _ hgv (Cond.not (.castable "java/lang/IllegalArgumentException" "java/lang/IllegalStateException")) (by decide +kernel))
  · exact va_Nc.of (flat_of_before _ hgv (Cond.not (.castable "java/lang/UnsupportedOperationException" "java/lang/IllegalStateException")) (by decide +kernel))
  · exact va_Nc.of (flat_of_before _ hgv (Cond.not (.castable "java/lang/UnsupportedOperationException" "java/lang/IllegalArgumentException")) (by decide +kernel))
  · exact va_Nc.of (flat_of_before _ hgv (Cond.not (.castable "java/lang/IllegalArgumentException" "java/util/NoSuchElementException")) (by decide +kernel))
theorem xi_setup {args : Array Value} {s : State} (b : Nat) (hts : ∀ w ∈ lw_tbl, w.before args s = true) (hgv : (Jvm.Cond.and given_1 narrow_1).before args s = true) : ∃ (aS : Nat → Nat) (dA : Nat → ClassId) (D : va_G), aS 30 = b ∧ va_K D xi_cl (xi_tys dA) s ∧ xi_St s.heap.size aS s := by
  classical
  obtain ⟨fK, hK⟩ := Classical.axiomOfChoice (xi_set_K hts)
  obtain ⟨fT, hT⟩ := Classical.axiomOfChoice (xi_set_T hts)
  have hS0 : ∀ j : Nat, ∃ q2 : Nat × Nat, j < 30 → vk_R (xi_str.getD j ("", 0, "")).1 (xi_str.getD j ("", 0, "")).2.1 (xi_str.getD j ("", 0, "")).2.2 q2.1 s ∧ va_O "java/lang/String" q2.1 (fun x => s.heap.size ≤ x) s s.heap ∧ va_OF "java/lang/String" "coder" "B" (.int 0) q2.1 (fun x => s.heap.size ≤ x) s s.heap ∧ va_OF "java/lang/String" "value" "[B" (.ref q2.2) q2.1 (fun x => s.heap.size ≤ x) s s.heap ∧ va_T .byte q2.2 (xi_tx.getD j []).length (fun k => .int (Int32.ofInt ((xi_tx.getD j []).getD k 0))) (fun x => s.heap.size ≤ x) s s.heap := by
    intro j
    by_cases hj : j < 30
    · obtain ⟨q2, h⟩ := xi_set_X hts hgv j hj
      exact ⟨q2, fun _ => h⟩
    · exact ⟨(0, 0), fun h => absurd h hj⟩
  obtain ⟨fS, hS⟩ := Classical.axiomOfChoice hS0
  obtain ⟨aF, hF⟩ := xi_set_F hts hgv
  have e1 : ∀ j : Nat, j < 30 → (fun n : Nat => if n = 30 then b else if n = 200 then aF else if 100 ≤ n then (fS (n - 100)).2 else (fS n).1) j = (fS j).1 := fun j hj => by
    show (if j = 30 then b else if j = 200 then aF else if 100 ≤ j then (fS (j - 100)).2 else (fS j).1) = _
    rw [if_neg (by omega), if_neg (by omega), if_neg (by omega)]
  have e2 : ∀ j : Nat, j < 30 → (fun n : Nat => if n = 30 then b else if n = 200 then aF else if 100 ≤ n then (fS (n - 100)).2 else (fS n).1) (100 + j) = (fS j).2 := fun j hj => by
    show (if 100 + j = 30 then b else if 100 + j = 200 then aF else if 100 ≤ 100 + j then (fS (100 + j - 100)).2 else (fS (100 + j)).1) = _
    rw [if_neg (by omega), if_neg (by omega), if_pos (by omega), Nat.add_sub_cancel_left]
  refine ⟨fun n => if n = 30 then b else if n = 200 then aF else if 100 ≤ n then (fS (n - 100)).2 else (fS n).1, fT, (fun c => (fK c).1, fun c => (fK c).2), rfl, ⟨fun c q hq => hK c q hq, fun k q hk => ?_⟩, fun j q hq => ?_, xi_set_N hts, xi_set_AO hts, xi_set_Q hts hgv, ⟨xi_set_Z hts hgv, hF, fun j t ht => ?_⟩, xi_set_C hgv⟩
  · match k, hk with
    | 0, hk => cases hk; exact hT 0 _ rfl
    | 1, hk => cases hk; exact hT 1 _ rfl
    | 2, hk => cases hk; exact hT 2 _ rfl
    | 3, hk => cases hk; exact hT 3 _ rfl
    | 4, hk => cases hk; exact hT 4 _ rfl
    | 5, hk => cases hk; exact hT 5 _ rfl
    | 6, hk => cases hk; exact hT 6 _ rfl
    | k + 7, hk => simp [xi_tys] at hk
  · have hj : j < 30 := (List.getElem?_eq_some_iff.mp hq).1
    have h := (hS j hj).1
    rw [List.getD_eq_getElem?_getD, hq] at h
    rw [e1 j hj]
    exact h
  · have hj : j < 30 := (List.getElem?_eq_some_iff.mp ht).1
    have h := (hS j hj).2
    rw [List.getD_eq_getElem?_getD, ht] at h
    unfold xi_Sj
    rw [e1 j hj, e2 j hj]
    exact h

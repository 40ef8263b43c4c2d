/-! THE CLASSES: name, fields in the order of the slots as the tables say them (declaring class, name, descriptor, final), how many -/
def xi_f0 : List (String × String × String × Bool) := [("CheapPlanner", "tokens", "LCheapPlanner$Tokens;", true), ("CheapPlanner", "rules", "LCheapPlanner$Domain;", true), ("CheapPlanner", "task", "LCheapPlanner$Problem;", true), ("CheapPlanner", "reader", "LCheapPlanner$Reader;", true), ("CheapPlanner", "scene", "LCheapPlanner$Ground;", true), ("CheapPlanner", "search", "LCheapPlanner$Search;", true), ("CheapPlanner", "guess", "LCheapPlanner$Estimate;", true), ("CheapPlanner", "hasDomain", "Z", false), ("CheapPlanner", "hasProblem", "Z", false), ("CheapPlanner", "row", "[I", true), ("CheapPlanner", "rowLength", "I", false), ("CheapPlanner", "told", "[C", true), ("CheapPlanner", "toldLength", "I", false)]
def xi_f1 : List (String × String × String × Bool) := [("CheapPlanner$Tokens", "typed", "[C", true), ("CheapPlanner$Tokens", "length", "I", false), ("CheapPlanner$Tokens", "kinds", "[I", true), ("CheapPlanner$Tokens", "starts", "[I", true), ("CheapPlanner$Tokens", "ends", "[I", true), ("CheapPlanner$Tokens", "codes", "[J", true), ("CheapPlanner$Tokens", "count", "I", false), ("CheapPlanner$Tokens", "at", "I", false), ("CheapPlanner$Tokens", "met", "I", false)]
def xi_f2 : List (String × String × String × Bool) := [("CheapPlanner$Domain", "name", "J", false), ("CheapPlanner$Domain", "types", "LCheapPlanner$Names;", true), ("CheapPlanner$Domain", "predicates", "LCheapPlanner$Names;", true), ("CheapPlanner$Domain", "predicateParameters", "[LCheapPlanner$Names;", true), ("CheapPlanner$Domain", "actions", "LCheapPlanner$Names;", true), ("CheapPlanner$Domain", "actionParameters", "[LCheapPlanner$Names;", true), ("CheapPlanner$Domain", "conditions", "[LCheapPlanner$Clause;", true), ("CheapPlanner$Domain", "effects", "[LCheapPlanner$Clause;", true)]
def xi_f3 : List (String × String × String × Bool) := [("CheapPlanner$Names", "codes", "[J", true), ("CheapPlanner$Names", "types", "[I", true), ("CheapPlanner$Names", "count", "I", false)]
def xi_f4 : List (String × String × String × Bool) := [("CheapPlanner$Clause", "predicates", "[I", true), ("CheapPlanner$Clause", "nots", "[Z", true), ("CheapPlanner$Clause", "firsts", "[I", true), ("CheapPlanner$Clause", "seconds", "[I", true), ("CheapPlanner$Clause", "count", "I", false), ("CheapPlanner$Clause", "cost", "I", false)]
def xi_f5 : List (String × String × String × Bool) := [("CheapPlanner$Problem", "objects", "LCheapPlanner$Names;", true), ("CheapPlanner$Problem", "init", "LCheapPlanner$Clause;", true), ("CheapPlanner$Problem", "goal", "LCheapPlanner$Clause;", true)]
def xi_f6 : List (String × String × String × Bool) := [("CheapPlanner$Reader", "tokens", "LCheapPlanner$Tokens;", true), ("CheapPlanner$Reader", "rules", "LCheapPlanner$Domain;", true), ("CheapPlanner$Reader", "task", "LCheapPlanner$Problem;", true), ("CheapPlanner$Reader", "clauses", "LCheapPlanner$ClauseReader;", true)]
def xi_f7 : List (String × String × String × Bool) := [("CheapPlanner$ClauseReader", "tokens", "LCheapPlanner$Tokens;", true), ("CheapPlanner$ClauseReader", "rules", "LCheapPlanner$Domain;", true), ("CheapPlanner$ClauseReader", "terms", "LCheapPlanner$Names;", false), ("CheapPlanner$ClauseReader", "termKind", "I", false)]
def xi_f8 : List (String × String × String × Bool) := [("CheapPlanner$Ground", "factNumbers", "[I", true), ("CheapPlanner$Ground", "factCount", "I", false), ("CheapPlanner$Ground", "list", "[LCheapPlanner$Step;", true), ("CheapPlanner$Ground", "stepCount", "I", false), ("CheapPlanner$Ground", "firstState", "J", false), ("CheapPlanner$Ground", "goal", "LCheapPlanner$Needs;", true), ("CheapPlanner$Ground", "itself", "[I", true)]
def xi_f9 : List (String × String × String × Bool) := [("CheapPlanner$Needs", "inside", "J", false), ("CheapPlanner$Needs", "outside", "J", false), ("CheapPlanner$Needs", "equalitiesHold", "Z", false), ("CheapPlanner$Needs", "atoms", "[I", true), ("CheapPlanner$Needs", "atomCount", "I", false)]
def xi_f10 : List (String × String × String × Bool) := [("CheapPlanner$Step", "action", "I", false), ("CheapPlanner$Step", "objects", "[I", true), ("CheapPlanner$Step", "cost", "I", false), ("CheapPlanner$Step", "needs", "LCheapPlanner$Needs;", true), ("CheapPlanner$Step", "going", "J", false), ("CheapPlanner$Step", "coming", "J", false), ("CheapPlanner$Step", "comers", "[I", true), ("CheapPlanner$Step", "comerCount", "I", false)]
def xi_f11 : List (String × String × String × Bool) := [("CheapPlanner$Search", "scene", "LCheapPlanner$Ground;", true), ("CheapPlanner$Search", "states", "[J", true), ("CheapPlanner$Search", "costs", "[I", true), ("CheapPlanner$Search", "dues", "[I", true), ("CheapPlanner$Search", "lengths", "[I", true), ("CheapPlanner$Search", "parents", "[I", true), ("CheapPlanner$Search", "lastSteps", "[I", true), ("CheapPlanner$Search", "slots", "[I", true), ("CheapPlanner$Search", "count", "I", false), ("CheapPlanner$Search", "limit", "I", false), ("CheapPlanner$Search", "crowded", "Z", false), ("CheapPlanner$Search", "found", "Z", false), ("CheapPlanner$Search", "cost", "I", false), ("CheapPlanner$Search", "steps", "[I", true)]
def xi_f12 : List (String × String × String × Bool) := [("CheapPlanner$Estimate", "scene", "LCheapPlanner$Ground;", true), ("CheapPlanner$Estimate", "worths", "[I", true)]
def xi_f13 : List (String × String × String × Bool) := [("CheapPlannerModel", "code", "I", false), ("CheapPlannerModel", "length", "I", false), ("CheapPlannerModel", "text", "[I", true), ("CheapPlannerModel", "keyword", "[I", true), ("CheapPlannerModel", "tokens", "I", false), ("CheapPlannerModel", "pos", "I", false), ("CheapPlannerModel", "tokenAt", "[I", true), ("CheapPlannerModel", "tokenEnd", "[I", true), ("CheapPlannerModel", "fault", "I", false), ("CheapPlannerModel", "faultNumber", "I", false), ("CheapPlannerModel", "faultPlace", "I", false), ("CheapPlannerModel", "hasDomain", "Z", false), ("CheapPlannerModel", "hasProblem", "Z", false), ("CheapPlannerModel", "hasPlan", "Z", false), ("CheapPlannerModel", "domainName", "J", false), ("CheapPlannerModel", "types", "I", false), ("CheapPlannerModel", "typeName", "[J", true), ("CheapPlannerModel", "predicates", "I", false), ("CheapPlannerModel", "predicateName", "[J", true), ("CheapPlannerModel", "predicateSize", "[I", true), ("CheapPlannerModel", "predicateType", "[I", true), ("CheapPlannerModel", "actions", "I", false), ("CheapPlannerModel", "actionName", "[J", true), ("CheapPlannerModel", "actionSize", "[I", true), ("CheapPlannerModel", "actionType", "[I", true), ("CheapPlannerModel", "variable", "[J", true), ("CheapPlannerModel", "actionCost", "[I", true), ("CheapPlannerModel", "conditions", "[I", true), ("CheapPlannerModel", "effects", "[I", true), ("CheapPlannerModel", "isEqual", "[Z", true), ("CheapPlannerModel", "isNot", "[Z", true), ("CheapPlannerModel", "predicate", "[I", true), ("CheapPlannerModel", "term", "[I", true), ("CheapPlannerModel", "objects", "I", false), ("CheapPlannerModel", "objectName", "[J", true), ("CheapPlannerModel", "objectType", "[I", true), ("CheapPlannerModel", "facts", "I", false), ("CheapPlannerModel", "factOf", "[I", true), ("CheapPlannerModel", "first", "J", false), ("CheapPlannerModel", "steps", "I", false), ("CheapPlannerModel", "stepAction", "[I", true), ("CheapPlannerModel", "stepObject", "[I", true), ("CheapPlannerModel", "needs", "[J", true), ("CheapPlannerModel", "lacks", "[J", true), ("CheapPlannerModel", "comes", "[J", true), ("CheapPlannerModel", "goes", "[J", true), ("CheapPlannerModel", "goalNeeds", "J", false), ("CheapPlannerModel", "goalLacks", "J", false), ("CheapPlannerModel", "goalHolds", "Z", false), ("CheapPlannerModel", "states", "I", false), ("CheapPlannerModel", "state", "[J", true), ("CheapPlannerModel", "cost", "[I", true), ("CheapPlannerModel", "depth", "[I", true), ("CheapPlannerModel", "before", "[I", true), ("CheapPlannerModel", "by", "[I", true), ("CheapPlannerModel", "table", "[I", true), ("CheapPlannerModel", "pathA", "[I", true), ("CheapPlannerModel", "pathB", "[I", true), ("CheapPlannerModel", "planSteps", "I", false), ("CheapPlannerModel", "plan", "[I", true), ("CheapPlannerModel", "row", "I", false), ("CheapPlannerModel", "rowStep", "[I", true), ("CheapPlannerModel", "scratch", "[J", true), ("CheapPlannerModel", "increased", "Z", false), ("CheapPlannerModel", "initBits", "J", false), ("CheapPlannerModel", "given", "[I", true), ("CheapPlannerModel", "goalFound", "Z", false), ("CheapPlannerModel", "told", "I", false), ("CheapPlannerModel", "wanted", "I", false), ("CheapPlannerModel", "found", "I", false), ("CheapPlannerModel", "worth", "[I", true)]
def xi_fl : List (List (String × String × String × Bool)) := [xi_f0, xi_f1, xi_f2, xi_f3, xi_f4, xi_f5, xi_f6, xi_f7, xi_f8, xi_f9, xi_f10, xi_f11, xi_f12, xi_f13]
def xi_fT (ci : Nat) : u_T := fun k => (xi_fl.getD ci []).getD k ("", "", "", false)
def xi_cl : List vw_C := [("CheapPlanner", xi_fT 0, 13), ("CheapPlanner$Tokens", xi_fT 1, 9), ("CheapPlanner$Domain", xi_fT 2, 8), ("CheapPlanner$Names", xi_fT 3, 3), ("CheapPlanner$Clause", xi_fT 4, 6), ("CheapPlanner$Problem", xi_fT 5, 3), ("CheapPlanner$Reader", xi_fT 6, 4), ("CheapPlanner$ClauseReader", xi_fT 7, 4), ("CheapPlanner$Ground", xi_fT 8, 7), ("CheapPlanner$Needs", xi_fT 9, 5), ("CheapPlanner$Step", xi_fT 10, 8), ("CheapPlanner$Search", xi_fT 11, 14), ("CheapPlanner$Estimate", xi_fT 12, 2), ("CheapPlannerModel", xi_fT 13, 71), ("java/lang/IllegalArgumentException", xi_fT 14, 0), ("java/lang/IllegalStateException", xi_fT 15, 0), ("java/lang/UnsupportedOperationException", xi_fT 16, 0), ("java/util/NoSuchElementException", xi_fT 17, 0), ("java/lang/IndexOutOfBoundsException", xi_fT 18, 0)]
def xi_t0 : List FieldType := [.object "CheapPlanner$Tokens", .object "CheapPlanner$Domain", .object "CheapPlanner$Problem", .object "CheapPlanner$Reader", .object "CheapPlanner$Ground", .object "CheapPlanner$Search", .object "CheapPlanner$Estimate", .boolean, .boolean, .array (.int), .int, .array (.char), .int]
def xi_t1 : List FieldType := [.array (.char), .int, .array (.int), .array (.int), .array (.int), .array (.long), .int, .int, .int]
def xi_t2 : List FieldType := [.long, .object "CheapPlanner$Names", .object "CheapPlanner$Names", .array (.object "CheapPlanner$Names"), .object "CheapPlanner$Names", .array (.object "CheapPlanner$Names"), .array (.object "CheapPlanner$Clause"), .array (.object "CheapPlanner$Clause")]
def xi_t3 : List FieldType := [.array (.long), .array (.int), .int]
def xi_t4 : List FieldType := [.array (.int), .array (.boolean), .array (.int), .array (.int), .int, .int]
def xi_t5 : List FieldType := [.object "CheapPlanner$Names", .object "CheapPlanner$Clause", .object "CheapPlanner$Clause"]
def xi_t6 : List FieldType := [.object "CheapPlanner$Tokens", .object "CheapPlanner$Domain", .object "CheapPlanner$Problem", .object "CheapPlanner$ClauseReader"]
def xi_t7 : List FieldType := [.object "CheapPlanner$Tokens", .object "CheapPlanner$Domain", .object "CheapPlanner$Names", .int]
def xi_t8 : List FieldType := [.array (.int), .int, .array (.object "CheapPlanner$Step"), .int, .long, .object "CheapPlanner$Needs", .array (.int)]
def xi_t9 : List FieldType := [.long, .long, .boolean, .array (.int), .int]
def xi_t10 : List FieldType := [.int, .array (.int), .int, .object "CheapPlanner$Needs", .long, .long, .array (.int), .int]
def xi_t11 : List FieldType := [.object "CheapPlanner$Ground", .array (.long), .array (.int), .array (.int), .array (.int), .array (.int), .array (.int), .array (.int), .int, .int, .boolean, .boolean, .int, .array (.int)]
def xi_t12 : List FieldType := [.object "CheapPlanner$Ground", .array (.int)]
def xi_t13 : List FieldType := [.int, .int, .array (.int), .array (.int), .int, .int, .array (.int), .array (.int), .int, .int, .int, .boolean, .boolean, .boolean, .long, .int, .array (.long), .int, .array (.long), .array (.int), .array (.int), .int, .array (.long), .array (.int), .array (.int), .array (.long), .array (.int), .array (.int), .array (.int), .array (.boolean), .array (.boolean), .array (.int), .array (.int), .int, .array (.long), .array (.int), .int, .array (.int), .long, .int, .array (.int), .array (.int), .array (.long), .array (.long), .array (.long), .array (.long), .long, .long, .boolean, .int, .array (.long), .array (.int), .array (.int), .array (.int), .array (.int), .array (.int), .array (.int), .array (.int), .int, .array (.int), .int, .array (.int), .array (.long), .boolean, .long, .array (.int), .boolean, .int, .int, .int, .array (.int)]
def xi_tl : List (List FieldType) := [xi_t0, xi_t1, xi_t2, xi_t3, xi_t4, xi_t5, xi_t6, xi_t7, xi_t8, xi_t9, xi_t10, xi_t11, xi_t12, xi_t13]
def xi_ty (ci k : Nat) : FieldType := (xi_tl.getD ci []).getD k .int
def xi_df (ci : Nat) : List Value := if ci < 14 then (xi_tl.getD ci []).map defaultValue else List.replicate 6 .null
def xi_tyl : List FieldType := [.int, .long, .char, .boolean, .object "CheapPlanner$Names", .object "CheapPlanner$Clause", .object "CheapPlanner$Step"]
def xi_tys (dA : Nat → ClassId) : List (ClassId × FieldType) := [(dA 0, .int), (dA 1, .long), (dA 2, .char), (dA 3, .boolean), (dA 4, .object "CheapPlanner$Names"), (dA 5, .object "CheapPlanner$Clause"), (dA 6, .object "CheapPlanner$Step")]
theorem xi_tys_at (dA : Nat → ClassId) {t : Nat} {ty : FieldType} (h : xi_tyl[t]? = some ty) : (xi_tys dA)[t]? = some (dA t, ty) := by
  match t, h with
  | 0, h => cases h; rfl
  | 1, h => cases h; rfl
  | 2, h => cases h; rfl
  | 3, h => cases h; rfl
  | 4, h => cases h; rfl
  | 5, h => cases h; rfl
  | 6, h => cases h; rfl
  | t + 7, h => simp [xi_tyl] at h
def xi_str : List (String × Nat × String) := [("CheapPlanner$Reader", 40, "domain"), ("CheapPlanner$Tokens", 78, "the text has a fault"), ("CheapPlanner$Reader", 80, "define"), ("CheapPlanner$Reader", 58, ":types"), ("CheapPlanner$Reader", 93, ":predicates"), ("CheapPlanner$Reader", 145, "-"), ("CheapPlanner$Reader", 105, ":action"), ("CheapPlanner$Reader", 110, ":parameters"), ("CheapPlanner$Reader", 125, ":precondition"), ("CheapPlanner$ClauseReader", 41, "and"), ("CheapPlanner$ClauseReader", 58, "increase"), ("CheapPlanner$ClauseReader", 115, "total-cost"), ("CheapPlanner$ClauseReader", 64, "not"), ("CheapPlanner$ClauseReader", 66, "="), ("CheapPlanner$Reader", 134, ":effect"), ("CheapPlanner", 107, "there is no domain"), ("CheapPlanner$Reader", 168, "problem"), ("CheapPlanner$Reader", 197, ":domain"), ("CheapPlanner$Reader", 199, ":objects"), ("CheapPlanner$Reader", 179, ":init"), ("CheapPlanner$Reader", 192, ":goal"), ("CheapPlanner", 121, "too many facts or steps"), ("CheapPlanner", 229, "there is no problem"), ("CheapPlanner", 135, "states is not 1 .. 200"), ("CheapPlanner", 148, "more states than allowed"), ("CheapPlanner", 173, "there is no plan"), ("CheapPlanner", 176, "no such step of a plan"), ("CheapPlanner", 181, "no such step"), ("CheapPlanner", 183, "no such what"), ("CheapPlanner", 198, "no such letter of a plan")]
def xi_nest : List Cond := [.methodLinkNest "CheapPlanner" 9 ⟨"CheapPlanner$Tokens", "<init>", "()V"⟩ "CheapPlanner", .methodLinkNest "CheapPlanner" 25 ⟨"CheapPlanner$Problem", "<init>", "()V"⟩ "CheapPlanner", .methodLinkNest "CheapPlanner$Ground" 25 ⟨"CheapPlanner$Needs", "<init>", "()V"⟩ "CheapPlanner", .methodLinkNest "CheapPlanner$Ground" 33 ⟨"CheapPlanner$Step", "<init>", "()V"⟩ "CheapPlanner", .methodLinkNest "CheapPlanner$Step" 17 ⟨"CheapPlanner$Needs", "<init>", "()V"⟩ "CheapPlanner", .castable "java/lang/IllegalArgumentException" "java/lang/IllegalArgumentException", .declares ⟨"java/lang/RuntimeException", "<init>", "()V"⟩, .declares ⟨"java/lang/RuntimeException", "<init>", "(Ljava/lang/String;)V"⟩, .declares ⟨"java/lang/Exception", "<init>", "()V"⟩, .declares ⟨"java/lang/Exception", "<init>", "(Ljava/lang/String;)V"⟩, .declares ⟨"java/lang/Throwable", "<init>", "()V"⟩, .declares ⟨"java/lang/Throwable", "<init>", "(Ljava/lang/String;)V"⟩, .castable "java/lang/IllegalStateException" "java/lang/IllegalStateException", .castable "java/lang/UnsupportedOperationException" "java/lang/UnsupportedOperationException", .castable "java/util/NoSuchElementException" "java/util/NoSuchElementException", .castable "java/lang/IndexOutOfBoundsException" "java/lang/IndexOutOfBoundsException"]
def xi_ao : List String := ["CheapPlanner$Names", "CheapPlanner$Clause", "CheapPlanner$Step"]
def xi_stq : List (String × String × String) := [("java/lang/Throwable", "UNASSIGNED_STACK", "[Ljava/lang/StackTraceElement;"), ("java/lang/Throwable", "SUPPRESSED_SENTINEL", "Ljava/util/List;")]
/-- the words that last -/
def xi_G : List Cond := lw_tbl.filter goodWord
def xi_part : Nat → List Cond
  | 0 => k2_sels lw_privs
  | 1 => tables_1_1
  | 2 => tables_1_2
  | 3 => tables_1_3
  | 4 => tables_1_4
  | 5 => tables_1_5
  | 6 => tables_1_6
  | 7 => tables_1_7
  | 8 => tables_1_8
  | _ => []
theorem xi_part_mem : ∀ {k : Nat} {w : Cond}, w ∈ xi_part k → w ∈ lw_tbl
  | 0, _, h => by simp only [lw_tbl, tables_1, List.mem_append]; simp only [xi_part] at h; simp [h]
  | 1, _, h => by simp only [lw_tbl, tables_1, List.mem_append]; simp only [xi_part] at h; simp [h]
  | 2, _, h => by simp only [lw_tbl, tables_1, List.mem_append]; simp only [xi_part] at h; simp [h]
  | 3, _, h => by simp only [lw_tbl, tables_1, List.mem_append]; simp only [xi_part] at h; simp [h]
  | 4, _, h => by simp only [lw_tbl, tables_1, List.mem_append]; simp only [xi_part] at h; simp [h]
  | 5, _, h => by simp only [lw_tbl, tables_1, List.mem_append]; simp only [xi_part] at h; simp [h]
  | 6, _, h => by simp only [lw_tbl, tables_1, List.mem_append]; simp only [xi_part] at h; simp [h]
  | 7, _, h => by simp only [lw_tbl, tables_1, List.mem_append]; simp only [xi_part] at h; simp [h]
  | 8, _, h => by simp only [lw_tbl, tables_1, List.mem_append]; simp only [xi_part] at h; simp [h]
  | k + 9, _, h => by simp [xi_part] at h
def xi_Gat (ix : Nat) (w : Cond) : Bool := decide ((xi_part (ix / 1000))[ix % 1000]? = some w) && goodWord w
theorem xi_Gm {ix : Nat} {w : Cond} (h : xi_Gat ix w = true) : w ∈ xi_G := by
  simp only [xi_Gat, Bool.and_eq_true, decide_eq_true_eq] at h
  exact List.mem_filter.mpr ⟨xi_part_mem (List.mem_of_getElem? h.1), h.2⟩
def xi_lix : List (List Nat) := [[2199, 2201, 2203, 2205, 2207, 2209, 2211, 2213, 2215, 2217, 2219, 2221, 2223], [1052, 1054, 1056, 1058, 1060, 1062, 1064, 1066, 1068], [1170, 1172, 1174, 1176, 1178, 1180, 1182, 1184], [1097, 1099, 1101], [1131, 1133, 1135, 1137, 1139, 1141], [1207, 1209, 1211], [2003, 2005, 2007, 2009], [1230, 1232, 1234, 1236], [2109, 2111, 2113, 2115, 2117, 2119, 2121], [2033, 2035, 2037, 2039, 2041], [2072, 2074, 2076, 2078, 2080, 2082, 2084, 2086], [2144, 2146, 2148, 2150, 2152, 2154, 2156, 2158, 2160, 2162, 2164, 2166, 2168, 2170], [2181, 2183], [6076, 6078, 6080, 6082, 6084, 6086, 6088, 6090, 6092, 6094, 6096, 6098, 6100, 6102, 6104, 6106, 6108, 6110, 6112, 6114, 6116, 6118, 6120, 6122, 6124, 6126, 6128, 6130, 6132, 6134, 6136, 6138, 6140, 6142, 6144, 6146, 6148, 6150, 6152, 6154, 6156, 6158, 6160, 6162, 6164, 6166, 6168, 6170, 6172, 6174, 6176, 6178, 6180, 6182, 6184, 6186, 6188, 6190, 6192, 6194, 6196, 6198, 6200, 6202, 6204, 6206, 6208, 6210, 6212, 6214, 6216]]
def xi_chk (ci : Nat) : Bool := match xi_cl[ci]? with
  | some (C, T, N) => (List.range N).all (fun k => xi_Gat ((xi_lix.getD ci []).getD k 0) (u_lay C T k)) && ((List.range N).all (fun k => decide (parseFieldDescriptor (T k).2.2.1 = some (xi_ty ci k))) && ((List.range N).all (fun a => (List.range N).all (fun b => decide (a = b) || decide ((T a).2.1 ≠ (T b).2.1))) && (List.range N).all (fun k => decide ((xi_df ci)[k]? = some (defaultValue (xi_ty ci k))))))
  | none => true
theorem xi_chk_0 : xi_chk 0 = true := by decide +kernel
theorem xi_chk_1 : xi_chk 1 = true := by decide +kernel
theorem xi_chk_2 : xi_chk 2 = true := by decide +kernel
theorem xi_chk_3 : xi_chk 3 = true := by decide +kernel
theorem xi_chk_4 : xi_chk 4 = true := by decide +kernel
theorem xi_chk_5 : xi_chk 5 = true := by decide +kernel
theorem xi_chk_6 : xi_chk 6 = true := by decide +kernel
theorem xi_chk_7 : xi_chk 7 = true := by decide +kernel
theorem xi_chk_8 : xi_chk 8 = true := by decide +kernel
theorem xi_chk_9 : xi_chk 9 = true := by decide +kernel
theorem xi_chk_10 : xi_chk 10 = true := by decide +kernel
theorem xi_chk_11 : xi_chk 11 = true := by decide +kernel
theorem xi_chk_12 : xi_chk 12 = true := by decide +kernel
theorem xi_chk_13 : xi_chk 13 = true := by decide +kernel
theorem xi_chk_14 : xi_chk 14 = true := by decide +kernel
theorem xi_chk_15 : xi_chk 15 = true := by decide +kernel
theorem xi_chk_16 : xi_chk 16 = true := by decide +kernel
theorem xi_chk_17 : xi_chk 17 = true := by decide +kernel
theorem xi_chk_18 : xi_chk 18 = true := by decide +kernel
theorem xi_chk_all : ∀ ci, xi_chk ci = true
  | 0 => xi_chk_0
  | 1 => xi_chk_1
  | 2 => xi_chk_2
  | 3 => xi_chk_3
  | 4 => xi_chk_4
  | 5 => xi_chk_5
  | 6 => xi_chk_6
  | 7 => xi_chk_7
  | 8 => xi_chk_8
  | 9 => xi_chk_9
  | 10 => xi_chk_10
  | 11 => xi_chk_11
  | 12 => xi_chk_12
  | 13 => xi_chk_13
  | 14 => xi_chk_14
  | 15 => xi_chk_15
  | 16 => xi_chk_16
  | 17 => xi_chk_17
  | 18 => xi_chk_18
  | ci + 19 => by simp [xi_chk, xi_cl]
theorem xi_chk_at {ci : Nat} {C : String} {T : u_T} {N : Nat} (hc : xi_cl[ci]? = some (C, T, N)) : ((List.range N).all (fun k => xi_Gat ((xi_lix.getD ci []).getD k 0) (u_lay C T k)) = true ∧ (List.range N).all (fun k => decide (parseFieldDescriptor (T k).2.2.1 = some (xi_ty ci k))) = true) ∧ ((List.range N).all (fun a => (List.range N).all (fun b => decide (a = b) || decide ((T a).2.1 ≠ (T b).2.1))) = true ∧ (List.range N).all (fun k => decide ((xi_df ci)[k]? = some (defaultValue (xi_ty ci k)))) = true) := by
  have h := xi_chk_all ci
  simp only [xi_chk, hc, Bool.and_eq_true] at h
  exact ⟨⟨h.1, h.2.1⟩, h.2.2.1, h.2.2.2⟩
theorem xi_in {ci : Nat} {C : String} {T : u_T} {N : Nat} (hc : xi_cl[ci]? = some (C, T, N)) : ∀ w ∈ u_ws C T N, w ∈ xi_G := by
  intro w hw
  obtain ⟨k, hk, rfl⟩ := List.mem_map.mp hw
  exact xi_Gm (List.all_eq_true.mp (xi_chk_at hc).1.1 k hk)
theorem xi_ty_ok {ci : Nat} {C : String} {T : u_T} {N k : Nat} (hc : xi_cl[ci]? = some (C, T, N)) (hk : k < N) : parseFieldDescriptor (T k).2.2.1 = some (xi_ty ci k) :=
  of_decide_eq_true (List.all_eq_true.mp (xi_chk_at hc).1.2 k (List.mem_range.mpr hk))
theorem xi_nm {ci : Nat} {C : String} {T : u_T} {N : Nat} (hc : xi_cl[ci]? = some (C, T, N)) : ∀ a, a < N → ∀ b, b < N → a ≠ b → (T a).2.1 ≠ (T b).2.1 := by
  intro a ha b hb hab
  have h := List.all_eq_true.mp (List.all_eq_true.mp (xi_chk_at hc).2.1 a (List.mem_range.mpr ha)) b (List.mem_range.mpr hb)
  simp only [Bool.or_eq_true, decide_eq_true_eq] at h
  exact h.resolve_left hab
theorem xi_v_df (b0 : Nat) (aS : Nat → Nat) (ty : FieldType) : xi_v b0 aS (defaultValue ty) = defaultValue ty := by cases ty <;> rfl
theorem xi_df_ok (b0 : Nat) (aS : Nat → Nat) {ci : Nat} {C : String} {T : u_T} {N j : Nat} (hc : xi_cl[ci]? = some (C, T, N)) (hj : j < N) : defaultValue (xi_ty ci j) = vp_V ((xi_df ci).map (xi_v b0 aS)) j := by
  have h := of_decide_eq_true (List.all_eq_true.mp (xi_chk_at hc).2.2 j (List.mem_range.mpr hj))
  simp [vp_V, h, xi_v_df]
/-- the letters of the text constants -/
def xi_tx : List (List Int) := [[100, 111, 109, 97, 105, 110], [116, 104, 101, 32, 116, 101, 120, 116, 32, 104, 97, 115, 32, 97, 32, 102, 97, 117, 108, 116], [100, 101, 102, 105, 110, 101], [58, 116, 121, 112, 101, 115], [58, 112, 114, 101, 100, 105, 99, 97, 116, 101, 115], [45], [58, 97, 99, 116, 105, 111, 110], [58, 112, 97, 114, 97, 109, 101, 116, 101, 114, 115], [58, 112, 114, 101, 99, 111, 110, 100, 105, 116, 105, 111, 110], [97, 110, 100], [105, 110, 99, 114, 101, 97, 115, 101], [116, 111, 116, 97, 108, 45, 99, 111, 115, 116], [110, 111, 116], [61], [58, 101, 102, 102, 101, 99, 116], [116, 104, 101, 114, 101, 32, 105, 115, 32, 110, 111, 32, 100, 111, 109, 97, 105, 110], [112, 114, 111, 98, 108, 101, 109], [58, 100, 111, 109, 97, 105, 110], [58, 111, 98, 106, 101, 99, 116, 115], [58, 105, 110, 105, 116], [58, 103, 111, 97, 108], [116, 111, 111, 32, 109, 97, 110, 121, 32, 102, 97, 99, 116, 115, 32, 111, 114, 32, 115, 116, 101, 112, 115], [116, 104, 101, 114, 101, 32, 105, 115, 32, 110, 111, 32, 112, 114, 111, 98, 108, 101, 109], [115, 116, 97, 116, 101, 115, 32, 105, 115, 32, 110, 111, 116, 32, 49, 32, 46, 46, 32, 50, 48, 48], [109, 111, 114, 101, 32, 115, 116, 97, 116, 101, 115, 32, 116, 104, 97, 110, 32, 97, 108, 108, 111, 119, 101, 100], [116, 104, 101, 114, 101, 32, 105, 115, 32, 110, 111, 32, 112, 108, 97, 110], [110, 111, 32, 115, 117, 99, 104, 32, 115, 116, 101, 112, 32, 111, 102, 32, 97, 32, 112, 108, 97, 110], [110, 111, 32, 115, 117, 99, 104, 32, 115, 116, 101, 112], [110, 111, 32, 115, 117, 99, 104, 32, 119, 104, 97, 116], [110, 111, 32, 115, 117, 99, 104, 32, 108, 101, 116, 116, 101, 114, 32, 111, 102, 32, 97, 32, 112, 108, 97, 110]]
/-- pairs of classes of exceptions that are not of one line -/
def xi_ncp : List (String × String) := [("java/lang/IllegalArgumentException", "java/lang/IllegalStateException"), ("java/lang/UnsupportedOperationException", "java/lang/IllegalStateException"), ("java/lang/UnsupportedOperationException", "java/lang/IllegalArgumentException"), ("java/lang/IllegalArgumentException", "java/util/NoSuchElementException")]

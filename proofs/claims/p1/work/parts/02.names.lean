/-! names: classes, fields, methods, words (written by a program out of the claim's tables) -/
/-- the words that keep over calls -/
def gw : List Cond := lw_tbl.filter goodWord
theorem gw_of {w : Cond} (h : w ∈ tables_1) (hg : goodWord w = true) : w ∈ gw := List.mem_filter.mpr ⟨List.mem_append_right _ h, hg⟩
theorem gw_sel {q : MethodName × Nat} (h : q ∈ lw_privs) (hg : goodWord (Cond.selects q.1.cls q.1 q.1) = true) : Cond.selects q.1.cls q.1 q.1 ∈ gw := List.mem_filter.mpr ⟨List.mem_append_left _ (List.mem_map.mpr ⟨q, h, rfl⟩), hg⟩
def R_Fu : String := "SureFunctions"
def R_Sg : String := "SureFunctions$Signatures"
def R_Te : String := "SureFunctions$Terms"
def R_Cl : String := "SureFunctions$Clauses"
def R_Ty : String := "SureFunctions$Typing"
def R_Co : String := "SureFunctions$Coverage"
def R_En : String := "SureFunctions$Ending"
def R_Va : String := "SureFunctions$Values"
def R_Ma : String := "SureFunctions$Machine"
def R_Mo : String := "SureFunctionsModel"
def R_La : String := "SureFunctionsLaw"
def R_Jm : String := "java/lang/Math"
def T_Fu : u_T := fun k => match k with
  | 0 => ("SureFunctions", "constructors", "LSureFunctions$Signatures;", true)
  | 1 => ("SureFunctions", "functions", "LSureFunctions$Signatures;", true)
  | 2 => ("SureFunctions", "terms", "LSureFunctions$Terms;", true)
  | 3 => ("SureFunctions", "clauses", "LSureFunctions$Clauses;", true)
  | 4 => ("SureFunctions", "typing", "LSureFunctions$Typing;", true)
  | 5 => ("SureFunctions", "coverage", "LSureFunctions$Coverage;", true)
  | 6 => ("SureFunctions", "ending", "LSureFunctions$Ending;", true)
  | 7 => ("SureFunctions", "machine", "LSureFunctions$Machine;", true)
  | 8 => ("SureFunctions", "verdict", "I", false)
  | _ => ("SureFunctions", "graphsOfLatestCheck", "I", false)
def t_Fu : Nat → FieldType := fun k => match k with
  | 0 => .object "SureFunctions$Signatures"
  | 1 => .object "SureFunctions$Signatures"
  | 2 => .object "SureFunctions$Terms"
  | 3 => .object "SureFunctions$Clauses"
  | 4 => .object "SureFunctions$Typing"
  | 5 => .object "SureFunctions$Coverage"
  | 6 => .object "SureFunctions$Ending"
  | 7 => .object "SureFunctions$Machine"
  | 8 => .int
  | _ => .int
theorem n_Fu : ∀ a, a < 10 → ∀ b, b < 10 → a ≠ b → (T_Fu a).2.1 ≠ (T_Fu b).2.1 := by decide +kernel
theorem t_Fu_ok : ∀ k, k < 10 → parseFieldDescriptor (T_Fu k).2.2.1 = some (t_Fu k) := by decide +kernel
def T_Sg : u_T := fun k => match k with
  | 0 => ("SureFunctions$Signatures", "most", "I", true)
  | 1 => ("SureFunctions$Signatures", "type", "[I", true)
  | 2 => ("SureFunctions$Signatures", "width", "[I", true)
  | 3 => ("SureFunctions$Signatures", "placeType", "[I", true)
  | _ => ("SureFunctions$Signatures", "many", "I", false)
def t_Sg : Nat → FieldType := fun k => match k with
  | 0 => .int
  | 1 => .array .int
  | 2 => .array .int
  | 3 => .array .int
  | _ => .int
theorem n_Sg : ∀ a, a < 5 → ∀ b, b < 5 → a ≠ b → (T_Sg a).2.1 ≠ (T_Sg b).2.1 := by decide +kernel
theorem t_Sg_ok : ∀ k, k < 5 → parseFieldDescriptor (T_Sg k).2.2.1 = some (t_Sg k) := by decide +kernel
def T_Te : u_T := fun k => match k with
  | 0 => ("SureFunctions$Terms", "kind", "[I", true)
  | 1 => ("SureFunctions$Terms", "head", "[I", true)
  | 2 => ("SureFunctions$Terms", "width", "[I", true)
  | 3 => ("SureFunctions$Terms", "part", "[I", true)
  | 4 => ("SureFunctions$Terms", "height", "[I", true)
  | 5 => ("SureFunctions$Terms", "size", "[I", true)
  | 6 => ("SureFunctions$Terms", "variables", "[I", true)
  | 7 => ("SureFunctions$Terms", "hasCall", "[Z", true)
  | 8 => ("SureFunctions$Terms", "hasVariableTwice", "[Z", true)
  | _ => ("SureFunctions$Terms", "many", "I", false)
def t_Te : Nat → FieldType := fun k => match k with
  | 0 => .array .int
  | 1 => .array .int
  | 2 => .array .int
  | 3 => .array .int
  | 4 => .array .int
  | 5 => .array .int
  | 6 => .array .int
  | 7 => .array .boolean
  | 8 => .array .boolean
  | _ => .int
theorem n_Te : ∀ a, a < 10 → ∀ b, b < 10 → a ≠ b → (T_Te a).2.1 ≠ (T_Te b).2.1 := by decide +kernel
theorem t_Te_ok : ∀ k, k < 10 → parseFieldDescriptor (T_Te k).2.2.1 = some (t_Te k) := by decide +kernel
def T_Cl : u_T := fun k => match k with
  | 0 => ("SureFunctions$Clauses", "functions", "LSureFunctions$Signatures;", true)
  | 1 => ("SureFunctions$Clauses", "terms", "LSureFunctions$Terms;", true)
  | 2 => ("SureFunctions$Clauses", "owner", "[I", true)
  | 3 => ("SureFunctions$Clauses", "pattern", "[I", true)
  | 4 => ("SureFunctions$Clauses", "body", "[I", true)
  | 5 => ("SureFunctions$Clauses", "ofFunction", "[I", true)
  | 6 => ("SureFunctions$Clauses", "manyOfFunction", "[I", true)
  | _ => ("SureFunctions$Clauses", "many", "I", false)
def t_Cl : Nat → FieldType := fun k => match k with
  | 0 => .object "SureFunctions$Signatures"
  | 1 => .object "SureFunctions$Terms"
  | 2 => .array .int
  | 3 => .array .int
  | 4 => .array .int
  | 5 => .array .int
  | 6 => .array .int
  | _ => .int
theorem n_Cl : ∀ a, a < 8 → ∀ b, b < 8 → a ≠ b → (T_Cl a).2.1 ≠ (T_Cl b).2.1 := by decide +kernel
theorem t_Cl_ok : ∀ k, k < 8 → parseFieldDescriptor (T_Cl k).2.2.1 = some (t_Cl k) := by decide +kernel
def T_Ty : u_T := fun k => match k with
  | 0 => ("SureFunctions$Typing", "constructors", "LSureFunctions$Signatures;", true)
  | 1 => ("SureFunctions$Typing", "functions", "LSureFunctions$Signatures;", true)
  | 2 => ("SureFunctions$Typing", "terms", "LSureFunctions$Terms;", true)
  | 3 => ("SureFunctions$Typing", "clauses", "LSureFunctions$Clauses;", true)
  | _ => ("SureFunctions$Typing", "variableType", "[I", true)
def t_Ty : Nat → FieldType := fun k => match k with
  | 0 => .object "SureFunctions$Signatures"
  | 1 => .object "SureFunctions$Signatures"
  | 2 => .object "SureFunctions$Terms"
  | 3 => .object "SureFunctions$Clauses"
  | _ => .array .int
theorem n_Ty : ∀ a, a < 5 → ∀ b, b < 5 → a ≠ b → (T_Ty a).2.1 ≠ (T_Ty b).2.1 := by decide +kernel
theorem t_Ty_ok : ∀ k, k < 5 → parseFieldDescriptor (T_Ty k).2.2.1 = some (t_Ty k) := by decide +kernel
def T_Co : u_T := fun k => match k with
  | 0 => ("SureFunctions$Coverage", "constructors", "LSureFunctions$Signatures;", true)
  | 1 => ("SureFunctions$Coverage", "functions", "LSureFunctions$Signatures;", true)
  | 2 => ("SureFunctions$Coverage", "terms", "LSureFunctions$Terms;", true)
  | 3 => ("SureFunctions$Coverage", "clauses", "LSureFunctions$Clauses;", true)
  | 4 => ("SureFunctions$Coverage", "wanted", "[I", true)
  | _ => ("SureFunctions$Coverage", "filled", "[I", true)
def t_Co : Nat → FieldType := fun k => match k with
  | 0 => .object "SureFunctions$Signatures"
  | 1 => .object "SureFunctions$Signatures"
  | 2 => .object "SureFunctions$Terms"
  | 3 => .object "SureFunctions$Clauses"
  | 4 => .array .int
  | _ => .array .int
theorem n_Co : ∀ a, a < 6 → ∀ b, b < 6 → a ≠ b → (T_Co a).2.1 ≠ (T_Co b).2.1 := by decide +kernel
theorem t_Co_ok : ∀ k, k < 6 → parseFieldDescriptor (T_Co k).2.2.1 = some (t_Co k) := by decide +kernel
def T_En : u_T := fun k => match k with
  | 0 => ("SureFunctions$Ending", "functions", "LSureFunctions$Signatures;", true)
  | 1 => ("SureFunctions$Ending", "terms", "LSureFunctions$Terms;", true)
  | 2 => ("SureFunctions$Ending", "clauses", "LSureFunctions$Clauses;", true)
  | 3 => ("SureFunctions$Ending", "calls", "[I", true)
  | 4 => ("SureFunctions$Ending", "manyCalls", "I", false)
  | 5 => ("SureFunctions$Ending", "graph", "[I", true)
  | 6 => ("SureFunctions$Ending", "manyGraphs", "I", false)
  | 7 => ("SureFunctions$Ending", "tooMany", "Z", false)
  | _ => ("SureFunctions$Ending", "table", "[I", true)
def t_En : Nat → FieldType := fun k => match k with
  | 0 => .object "SureFunctions$Signatures"
  | 1 => .object "SureFunctions$Terms"
  | 2 => .object "SureFunctions$Clauses"
  | 3 => .array .int
  | 4 => .int
  | 5 => .array .int
  | 6 => .int
  | 7 => .boolean
  | _ => .array .int
theorem n_En : ∀ a, a < 9 → ∀ b, b < 9 → a ≠ b → (T_En a).2.1 ≠ (T_En b).2.1 := by decide +kernel
theorem t_En_ok : ∀ k, k < 9 → parseFieldDescriptor (T_En k).2.2.1 = some (t_En k) := by decide +kernel
def T_Va : u_T := fun k => match k with
  | 0 => ("SureFunctions$Values", "constructors", "LSureFunctions$Signatures;", true)
  | 1 => ("SureFunctions$Values", "terms", "LSureFunctions$Terms;", true)
  | 2 => ("SureFunctions$Values", "maker", "[I", true)
  | 3 => ("SureFunctions$Values", "part", "[I", true)
  | 4 => ("SureFunctions$Values", "size", "[I", true)
  | _ => ("SureFunctions$Values", "many", "I", false)
def t_Va : Nat → FieldType := fun k => match k with
  | 0 => .object "SureFunctions$Signatures"
  | 1 => .object "SureFunctions$Terms"
  | 2 => .array .int
  | 3 => .array .int
  | 4 => .array .int
  | _ => .int
theorem n_Va : ∀ a, a < 6 → ∀ b, b < 6 → a ≠ b → (T_Va a).2.1 ≠ (T_Va b).2.1 := by decide +kernel
theorem t_Va_ok : ∀ k, k < 6 → parseFieldDescriptor (T_Va k).2.2.1 = some (t_Va k) := by decide +kernel
def T_Ma : u_T := fun k => match k with
  | 0 => ("SureFunctions$Machine", "functions", "LSureFunctions$Signatures;", true)
  | 1 => ("SureFunctions$Machine", "terms", "LSureFunctions$Terms;", true)
  | 2 => ("SureFunctions$Machine", "clauses", "LSureFunctions$Clauses;", true)
  | 3 => ("SureFunctions$Machine", "values", "LSureFunctions$Values;", true)
  | 4 => ("SureFunctions$Machine", "frameTerm", "[I", true)
  | 5 => ("SureFunctions$Machine", "frameRoom", "[I", true)
  | 6 => ("SureFunctions$Machine", "frameDone", "[I", true)
  | 7 => ("SureFunctions$Machine", "frames", "I", false)
  | 8 => ("SureFunctions$Machine", "held", "[I", true)
  | 9 => ("SureFunctions$Machine", "manyHeld", "I", false)
  | 10 => ("SureFunctions$Machine", "bound", "[I", true)
  | 11 => ("SureFunctions$Machine", "steps", "I", false)
  | 12 => ("SureFunctions$Machine", "ended", "Z", false)
  | 13 => ("SureFunctions$Machine", "answer", "[I", true)
  | _ => ("SureFunctions$Machine", "answerSize", "I", false)
def t_Ma : Nat → FieldType := fun k => match k with
  | 0 => .object "SureFunctions$Signatures"
  | 1 => .object "SureFunctions$Terms"
  | 2 => .object "SureFunctions$Clauses"
  | 3 => .object "SureFunctions$Values"
  | 4 => .array .int
  | 5 => .array .int
  | 6 => .array .int
  | 7 => .int
  | 8 => .array .int
  | 9 => .int
  | 10 => .array .int
  | 11 => .int
  | 12 => .boolean
  | 13 => .array .int
  | _ => .int
theorem n_Ma : ∀ a, a < 15 → ∀ b, b < 15 → a ≠ b → (T_Ma a).2.1 ≠ (T_Ma b).2.1 := by decide +kernel
theorem t_Ma_ok : ∀ k, k < 15 → parseFieldDescriptor (T_Ma k).2.2.1 = some (t_Ma k) := by decide +kernel
def T_Mo : u_T := fun k => match k with
  | 0 => ("SureFunctionsModel", "constructors", "I", false)
  | 1 => ("SureFunctionsModel", "makes", "[I", true)
  | 2 => ("SureFunctionsModel", "parts", "[I", true)
  | 3 => ("SureFunctionsModel", "partType", "[I", true)
  | 4 => ("SureFunctionsModel", "functions", "I", false)
  | 5 => ("SureFunctionsModel", "answers", "[I", true)
  | 6 => ("SureFunctionsModel", "arguments", "[I", true)
  | 7 => ("SureFunctionsModel", "argumentType", "[I", true)
  | 8 => ("SureFunctionsModel", "terms", "I", false)
  | 9 => ("SureFunctionsModel", "head", "[I", true)
  | 10 => ("SureFunctionsModel", "below", "[I", true)
  | 11 => ("SureFunctionsModel", "height", "[I", true)
  | 12 => ("SureFunctionsModel", "size", "[I", true)
  | 13 => ("SureFunctionsModel", "clauses", "I", false)
  | 14 => ("SureFunctionsModel", "clauseOf", "[I", true)
  | 15 => ("SureFunctionsModel", "pattern", "[I", true)
  | 16 => ("SureFunctionsModel", "body", "[I", true)
  | 17 => ("SureFunctionsModel", "good", "Z", false)
  | 18 => ("SureFunctionsModel", "graphs", "I", false)
  | 19 => ("SureFunctionsModel", "graphFrom", "[I", true)
  | 20 => ("SureFunctionsModel", "graphTo", "[I", true)
  | 21 => ("SureFunctionsModel", "graphArcs", "[I", true)
  | 22 => ("SureFunctionsModel", "open", "I", false)
  | 23 => ("SureFunctionsModel", "first", "[I", true)
  | 24 => ("SureFunctionsModel", "second", "[I", true)
  | 25 => ("SureFunctionsModel", "seen", "[Z", true)
  | 26 => ("SureFunctionsModel", "typeOf", "[I", true)
  | 27 => ("SureFunctionsModel", "inhabited", "[Z", true)
  | 28 => ("SureFunctionsModel", "row", "[I", true)
  | 29 => ("SureFunctionsModel", "values", "I", false)
  | 30 => ("SureFunctionsModel", "made", "[I", true)
  | 31 => ("SureFunctionsModel", "child", "[I", true)
  | 32 => ("SureFunctionsModel", "weight", "[I", true)
  | 33 => ("SureFunctionsModel", "built", "I", false)
  | 34 => ("SureFunctionsModel", "steps", "I", false)
  | 35 => ("SureFunctionsModel", "todo", "I", false)
  | 36 => ("SureFunctionsModel", "todoTerm", "[I", true)
  | 37 => ("SureFunctionsModel", "todoFrame", "[I", true)
  | 38 => ("SureFunctionsModel", "held", "I", false)
  | 39 => ("SureFunctionsModel", "value", "[I", true)
  | 40 => ("SureFunctionsModel", "binding", "[I", true)
  | 41 => ("SureFunctionsModel", "given", "[I", true)
  | 42 => ("SureFunctionsModel", "answerSize", "I", false)
  | 43 => ("SureFunctionsModel", "answer", "[I", true)
  | _ => ("SureFunctionsModel", "thrown", "I", false)
def t_Mo : Nat → FieldType := fun k => match k with
  | 0 => .int
  | 1 => .array .int
  | 2 => .array .int
  | 3 => .array .int
  | 4 => .int
  | 5 => .array .int
  | 6 => .array .int
  | 7 => .array .int
  | 8 => .int
  | 9 => .array .int
  | 10 => .array .int
  | 11 => .array .int
  | 12 => .array .int
  | 13 => .int
  | 14 => .array .int
  | 15 => .array .int
  | 16 => .array .int
  | 17 => .boolean
  | 18 => .int
  | 19 => .array .int
  | 20 => .array .int
  | 21 => .array .int
  | 22 => .int
  | 23 => .array .int
  | 24 => .array .int
  | 25 => .array .boolean
  | 26 => .array .int
  | 27 => .array .boolean
  | 28 => .array .int
  | 29 => .int
  | 30 => .array .int
  | 31 => .array .int
  | 32 => .array .int
  | 33 => .int
  | 34 => .int
  | 35 => .int
  | 36 => .array .int
  | 37 => .array .int
  | 38 => .int
  | 39 => .array .int
  | 40 => .array .int
  | 41 => .array .int
  | 42 => .int
  | 43 => .array .int
  | _ => .int
theorem n_Mo : ∀ a, a < 45 → ∀ b, b < 45 → a ≠ b → (T_Mo a).2.1 ≠ (T_Mo b).2.1 := by decide +kernel
theorem t_Mo_ok : ∀ k, k < 45 → parseFieldDescriptor (T_Mo k).2.2.1 = some (t_Mo k) := by decide +kernel
abbrev vwCl : List vw_C := [(R_Fu, T_Fu, 10), (R_Sg, T_Sg, 5), (R_Te, T_Te, 10), (R_Cl, T_Cl, 8), (R_Ty, T_Ty, 5), (R_Co, T_Co, 6), (R_En, T_En, 9), (R_Va, T_Va, 6), (R_Ma, T_Ma, 15), (R_Mo, T_Mo, 45)]
abbrev b_Fu_init : ByteArray := prog_1_method_1_code
def y_Fu_init : MethodName := ⟨R_Fu, "<init>", "()V"⟩
abbrev b_Sg_init : ByteArray := prog_6_method_1_code
def y_Sg_init : MethodName := ⟨R_Sg, "<init>", "(I)V"⟩
abbrev b_Te_init : ByteArray := prog_7_method_1_code
def y_Te_init : MethodName := ⟨R_Te, "<init>", "()V"⟩
abbrev b_Cl_init : ByteArray := prog_2_method_1_code
def y_Cl_init : MethodName := ⟨R_Cl, "<init>", "(LSureFunctions$Signatures;LSureFunctions$Terms;)V"⟩
abbrev b_Ty_init : ByteArray := prog_8_method_1_code
def y_Ty_init : MethodName := ⟨R_Ty, "<init>", "(LSureFunctions$Signatures;LSureFunctions$Signatures;LSureFunctions$Terms;LSureFunctions$Clauses;)V"⟩
abbrev b_Co_init : ByteArray := prog_3_method_1_code
def y_Co_init : MethodName := ⟨R_Co, "<init>", "(LSureFunctions$Signatures;LSureFunctions$Signatures;LSureFunctions$Terms;LSureFunctions$Clauses;)V"⟩
abbrev b_En_init : ByteArray := prog_4_method_1_code
def y_En_init : MethodName := ⟨R_En, "<init>", "(LSureFunctions$Signatures;LSureFunctions$Terms;LSureFunctions$Clauses;)V"⟩
abbrev b_Ma_init : ByteArray := prog_5_method_1_code
def y_Ma_init : MethodName := ⟨R_Ma, "<init>", "(LSureFunctions$Signatures;LSureFunctions$Signatures;LSureFunctions$Terms;LSureFunctions$Clauses;)V"⟩
abbrev b_Va_init : ByteArray := prog_9_method_1_code
def y_Va_init : MethodName := ⟨R_Va, "<init>", "(LSureFunctions$Signatures;LSureFunctions$Terms;)V"⟩
abbrev b_Fu_check : ByteArray := prog_1_method_8_code
def y_Fu_check : MethodName := ⟨R_Fu, "check", "()I"⟩
abbrev b_Fu_findWhatIsWrong : ByteArray := prog_1_method_15_code
def y_Fu_findWhatIsWrong : MethodName := ⟨R_Fu, "findWhatIsWrong", "()I"⟩
abbrev b_Ty_allInhabited : ByteArray := prog_8_method_2_code
def y_Ty_allInhabited : MethodName := ⟨R_Ty, "allInhabited", "()Z"⟩
abbrev b_Sg_typesUsed : ByteArray := prog_6_method_9_code
def y_Sg_typesUsed : MethodName := ⟨R_Sg, "typesUsed", "()I"⟩
abbrev b_Sg_typesTaken : ByteArray := prog_6_method_10_code
def y_Sg_typesTaken : MethodName := ⟨R_Sg, "typesTaken", "(I)I"⟩
abbrev b_Ty_typesWithValues : ByteArray := prog_8_method_3_code
def y_Ty_typesWithValues : MethodName := ⟨R_Ty, "typesWithValues", "()I"⟩
abbrev b_Sg_howMany : ByteArray := prog_6_method_2_code
def y_Sg_howMany : MethodName := ⟨R_Sg, "howMany", "()I"⟩
abbrev b_Sg_type : ByteArray := prog_6_method_5_code
def y_Sg_type : MethodName := ⟨R_Sg, "type", "(I)I"⟩
abbrev b_Ty_allTyped : ByteArray := prog_8_method_4_code
def y_Ty_allTyped : MethodName := ⟨R_Ty, "allTyped", "()Z"⟩
abbrev b_Cl_howMany : ByteArray := prog_2_method_2_code
def y_Cl_howMany : MethodName := ⟨R_Cl, "howMany", "()I"⟩
abbrev b_Ty_isTyped : ByteArray := prog_8_method_5_code
def y_Ty_isTyped : MethodName := ⟨R_Ty, "isTyped", "(I)Z"⟩
abbrev b_Cl_owner : ByteArray := prog_2_method_5_code
def y_Cl_owner : MethodName := ⟨R_Cl, "owner", "(I)I"⟩
abbrev b_Sg_width : ByteArray := prog_6_method_6_code
def y_Sg_width : MethodName := ⟨R_Sg, "width", "(I)I"⟩
abbrev b_Cl_pattern : ByteArray := prog_2_method_6_code
def y_Cl_pattern : MethodName := ⟨R_Cl, "pattern", "(II)I"⟩
abbrev b_Sg_placeType : ByteArray := prog_6_method_7_code
def y_Sg_placeType : MethodName := ⟨R_Sg, "placeType", "(II)I"⟩
abbrev b_Ty_isPatternOfType : ByteArray := prog_8_method_6_code
def y_Ty_isPatternOfType : MethodName := ⟨R_Ty, "isPatternOfType", "(II)Z"⟩
abbrev b_Te_isVariable : ByteArray := prog_7_method_5_code
def y_Te_isVariable : MethodName := ⟨R_Te, "isVariable", "(I)Z"⟩
abbrev b_Te_head : ByteArray := prog_7_method_8_code
def y_Te_head : MethodName := ⟨R_Te, "head", "(I)I"⟩
abbrev b_Te_width : ByteArray := prog_7_method_9_code
def y_Te_width : MethodName := ⟨R_Te, "width", "(I)I"⟩
abbrev b_Te_part : ByteArray := prog_7_method_10_code
def y_Te_part : MethodName := ⟨R_Te, "part", "(II)I"⟩
abbrev b_Cl_body : ByteArray := prog_2_method_7_code
def y_Cl_body : MethodName := ⟨R_Cl, "body", "(I)I"⟩
abbrev b_Ty_isOfType : ByteArray := prog_8_method_8_code
def y_Ty_isOfType : MethodName := ⟨R_Ty, "isOfType", "(II)Z"⟩
abbrev b_Te_isMade : ByteArray := prog_7_method_6_code
def y_Te_isMade : MethodName := ⟨R_Te, "isMade", "(I)Z"⟩
abbrev b_Co_allCovered : ByteArray := prog_3_method_2_code
def y_Co_allCovered : MethodName := ⟨R_Co, "allCovered", "()Z"⟩
abbrev b_Co_readPatterns : ByteArray := prog_3_method_3_code
def y_Co_readPatterns : MethodName := ⟨R_Co, "readPatterns", "(I)V"⟩
abbrev b_Cl_howManyOf : ByteArray := prog_2_method_8_code
def y_Cl_howManyOf : MethodName := ⟨R_Cl, "howManyOf", "(I)I"⟩
abbrev b_Cl_ofFunction : ByteArray := prog_2_method_9_code
def y_Cl_ofFunction : MethodName := ⟨R_Cl, "ofFunction", "(II)I"⟩
abbrev b_Co_readPattern : ByteArray := prog_3_method_4_code
def y_Co_readPattern : MethodName := ⟨R_Co, "readPattern", "(II)V"⟩
abbrev b_Co_isCovered : ByteArray := prog_3_method_5_code
def y_Co_isCovered : MethodName := ⟨R_Co, "isCovered", "(II)Z"⟩
abbrev b_Co_compare : ByteArray := prog_3_method_8_code
def y_Co_compare : MethodName := ⟨R_Co, "compare", "(I)I"⟩
abbrev b_Jm_min : ByteArray := prog_16_method_69_code
def y_Jm_min : MethodName := ⟨R_Jm, "min", "(II)I"⟩
abbrev b_Co_isCoveredWhenSplit : ByteArray := prog_3_method_6_code
def y_Co_isCoveredWhenSplit : MethodName := ⟨R_Co, "isCoveredWhenSplit", "(IIII)Z"⟩
abbrev b_Co_slotType : ByteArray := prog_3_method_10_code
def y_Co_slotType : MethodName := ⟨R_Co, "slotType", "(II)I"⟩
abbrev b_Co_constructorThatNoneNames : ByteArray := prog_3_method_7_code
def y_Co_constructorThatNoneNames : MethodName := ⟨R_Co, "constructorThatNoneNames", "(III)I"⟩
abbrev b_Co_isNamed : ByteArray := prog_3_method_9_code
def y_Co_isNamed : MethodName := ⟨R_Co, "isNamed", "(III)Z"⟩
abbrev b_En_makeGraphs : ByteArray := prog_4_method_8_code
def y_En_makeGraphs : MethodName := ⟨R_En, "makeGraphs", "()I"⟩
abbrev b_En_collectCalls : ByteArray := prog_4_method_3_code
def y_En_collectCalls : MethodName := ⟨R_En, "collectCalls", "(I)V"⟩
abbrev b_En_collectCallsIn : ByteArray := prog_4_method_4_code
def y_En_collectCallsIn : MethodName := ⟨R_En, "collectCallsIn", "(I)V"⟩
abbrev b_Te_isCalled : ByteArray := prog_7_method_7_code
def y_Te_isCalled : MethodName := ⟨R_Te, "isCalled", "(I)Z"⟩
abbrev b_En_graphOf : ByteArray := prog_4_method_10_code
def y_En_graphOf : MethodName := ⟨R_En, "graphOf", "(II)I"⟩
abbrev b_En_arcBetween : ByteArray := prog_4_method_5_code
def y_En_arcBetween : MethodName := ⟨R_En, "arcBetween", "(II)I"⟩
abbrev b_En_isSame : ByteArray := prog_4_method_6_code
def y_En_isSame : MethodName := ⟨R_En, "isSame", "(II)Z"⟩
abbrev b_En_isInside : ByteArray := prog_4_method_7_code
def y_En_isInside : MethodName := ⟨R_En, "isInside", "(II)Z"⟩
abbrev b_En_code : ByteArray := prog_4_method_14_code
def y_En_code : MethodName := ⟨R_En, "code", "(IIII)I"⟩
abbrev b_En_addGraph : ByteArray := prog_4_method_11_code
def y_En_addGraph : MethodName := ⟨R_En, "addGraph", "(I)V"⟩
abbrev b_En_addCompositions : ByteArray := prog_4_method_9_code
def y_En_addCompositions : MethodName := ⟨R_En, "addCompositions", "(I)V"⟩
abbrev b_En_to : ByteArray := prog_4_method_17_code
def y_En_to : MethodName := ⟨R_En, "to", "(I)I"⟩
abbrev b_En_from : ByteArray := prog_4_method_18_code
def y_En_from : MethodName := ⟨R_En, "from", "(I)I"⟩
abbrev b_En_compose : ByteArray := prog_4_method_12_code
def y_En_compose : MethodName := ⟨R_En, "compose", "(II)I"⟩
abbrev b_En_arcs : ByteArray := prog_4_method_15_code
def y_En_arcs : MethodName := ⟨R_En, "arcs", "(I)I"⟩
abbrev b_En_strict : ByteArray := prog_4_method_16_code
def y_En_strict : MethodName := ⟨R_En, "strict", "(I)I"⟩
abbrev b_En_allEnd : ByteArray := prog_4_method_13_code
def y_En_allEnd : MethodName := ⟨R_En, "allEnd", "()Z"⟩
abbrev b_Fu_graphs : ByteArray := prog_1_method_9_code
def y_Fu_graphs : MethodName := ⟨R_Fu, "graphs", "()I"⟩
abbrev b_Fu_isValue : ByteArray := prog_1_method_11_code
def y_Fu_isValue : MethodName := ⟨R_Fu, "isValue", "(II)Z"⟩
abbrev b_Fu_isType : ByteArray := prog_1_method_17_code
def y_Fu_isType : MethodName := ⟨R_Fu, "isType", "(I)Z"⟩
abbrev b_Te_has : ByteArray := prog_7_method_4_code
def y_Te_has : MethodName := ⟨R_Te, "has", "(I)Z"⟩
abbrev b_Ty_isClosedOfType : ByteArray := prog_8_method_7_code
def y_Ty_isClosedOfType : MethodName := ⟨R_Ty, "isClosedOfType", "(II)Z"⟩
abbrev b_Te_isClosed : ByteArray := prog_7_method_14_code
def y_Te_isClosed : MethodName := ⟨R_Te, "isClosed", "(I)Z"⟩
abbrev b_Fu_count : ByteArray := prog_1_method_14_code
def y_Fu_count : MethodName := ⟨R_Fu, "count", "(I)I"⟩
abbrev b_Ma_steps : ByteArray := prog_5_method_2_code
def y_Ma_steps : MethodName := ⟨R_Ma, "steps", "()I"⟩
abbrev b_Te_howMany : ByteArray := prog_7_method_2_code
def y_Te_howMany : MethodName := ⟨R_Te, "howMany", "()I"⟩
abbrev b_La_constructor : ByteArray := method_3_code
def y_La_constructor : MethodName := ⟨R_La, "constructor", "(LSureFunctions;IIII[J)I"⟩
abbrev b_Fu_constructor : ByteArray := prog_1_method_2_code
def y_Fu_constructor : MethodName := ⟨R_Fu, "constructor", "(IIII)I"⟩
abbrev b_Fu_areTypes : ByteArray := prog_1_method_18_code
def y_Fu_areTypes : MethodName := ⟨R_Fu, "areTypes", "(IIII)Z"⟩
abbrev b_Fu_leadingPlaces : ByteArray := prog_1_method_19_code
def y_Fu_leadingPlaces : MethodName := ⟨R_Fu, "leadingPlaces", "(III)I"⟩
abbrev b_Fu_pick : ByteArray := prog_1_method_20_code
def y_Fu_pick : MethodName := ⟨R_Fu, "pick", "(IIII)I"⟩
abbrev b_Sg_isFull : ByteArray := prog_6_method_3_code
def y_Sg_isFull : MethodName := ⟨R_Sg, "isFull", "()Z"⟩
abbrev b_Sg_declare : ByteArray := prog_6_method_8_code
def y_Sg_declare : MethodName := ⟨R_Sg, "declare", "(IIII)I"⟩
abbrev b_La_function : ByteArray := method_4_code
def y_La_function : MethodName := ⟨R_La, "function", "(LSureFunctions;IIII[J)I"⟩
abbrev b_Fu_function : ByteArray := prog_1_method_3_code
def y_Fu_function : MethodName := ⟨R_Fu, "function", "(IIII)I"⟩
abbrev b_La_variable : ByteArray := method_5_code
def y_La_variable : MethodName := ⟨R_La, "variable", "(LSureFunctions;I[J)I"⟩
abbrev b_Fu_variable : ByteArray := prog_1_method_4_code
def y_Fu_variable : MethodName := ⟨R_Fu, "variable", "(I)I"⟩
abbrev b_Te_isFull : ByteArray := prog_7_method_3_code
def y_Te_isFull : MethodName := ⟨R_Te, "isFull", "()Z"⟩
abbrev b_Te_addVariable : ByteArray := prog_7_method_16_code
def y_Te_addVariable : MethodName := ⟨R_Te, "addVariable", "(I)I"⟩
abbrev b_La_make : ByteArray := method_6_code
def y_La_make : MethodName := ⟨R_La, "make", "(LSureFunctions;IIII[J)I"⟩
abbrev b_Fu_make : ByteArray := prog_1_method_5_code
def y_Fu_make : MethodName := ⟨R_Fu, "make", "(IIII)I"⟩
abbrev b_Sg_has : ByteArray := prog_6_method_4_code
def y_Sg_has : MethodName := ⟨R_Sg, "has", "(I)Z"⟩
abbrev b_Te_canJoin : ByteArray := prog_7_method_15_code
def y_Te_canJoin : MethodName := ⟨R_Te, "canJoin", "(IIII)Z"⟩
abbrev b_Jm_max : ByteArray := prog_16_method_65_code
def y_Jm_max : MethodName := ⟨R_Jm, "max", "(II)I"⟩
abbrev b_Te_addMade : ByteArray := prog_7_method_17_code
def y_Te_addMade : MethodName := ⟨R_Te, "addMade", "(IIIII)I"⟩
abbrev b_Te_join : ByteArray := prog_7_method_19_code
def y_Te_join : MethodName := ⟨R_Te, "join", "(IIII)I"⟩
abbrev b_La_call : ByteArray := method_7_code
def y_La_call : MethodName := ⟨R_La, "call", "(LSureFunctions;IIII[J)I"⟩
abbrev b_Fu_call : ByteArray := prog_1_method_6_code
def y_Fu_call : MethodName := ⟨R_Fu, "call", "(IIII)I"⟩
abbrev b_Te_addCalled : ByteArray := prog_7_method_18_code
def y_Te_addCalled : MethodName := ⟨R_Te, "addCalled", "(IIIII)I"⟩
abbrev b_La_clause : ByteArray := method_8_code
def y_La_clause : MethodName := ⟨R_La, "clause", "(LSureFunctions;IIIII[J)I"⟩
abbrev b_Fu_clause : ByteArray := prog_1_method_7_code
def y_Fu_clause : MethodName := ⟨R_Fu, "clause", "(IIIII)I"⟩
abbrev b_Cl_isWellFormed : ByteArray := prog_2_method_10_code
def y_Cl_isWellFormed : MethodName := ⟨R_Cl, "isWellFormed", "(IIIII)Z"⟩
abbrev b_Te_isPattern : ByteArray := prog_7_method_13_code
def y_Te_isPattern : MethodName := ⟨R_Te, "isPattern", "(I)Z"⟩
abbrev b_Te_variables : ByteArray := prog_7_method_12_code
def y_Te_variables : MethodName := ⟨R_Te, "variables", "(I)I"⟩
abbrev b_Cl_isFull : ByteArray := prog_2_method_3_code
def y_Cl_isFull : MethodName := ⟨R_Cl, "isFull", "(I)Z"⟩
abbrev b_Cl_add : ByteArray := prog_2_method_11_code
def y_Cl_add : MethodName := ⟨R_Cl, "add", "(IIIII)I"⟩
abbrev b_La_arc : ByteArray := method_9_code
def y_La_arc : MethodName := ⟨R_La, "arc", "(LSureFunctions;IIII[J)I"⟩
abbrev b_Fu_arc : ByteArray := prog_1_method_10_code
def y_Fu_arc : MethodName := ⟨R_Fu, "arc", "(IIII)I"⟩
abbrev b_Cl_has : ByteArray := prog_2_method_4_code
def y_Cl_has : MethodName := ⟨R_Cl, "has", "(I)Z"⟩
abbrev b_En_callInBody : ByteArray := prog_4_method_2_code
def y_En_callInBody : MethodName := ⟨R_En, "callInBody", "(II)I"⟩
abbrev b_La_run : ByteArray := method_10_code
def y_La_run : MethodName := ⟨R_La, "run", "(LSureFunctions;IIII[J)I"⟩
abbrev b_Fu_run : ByteArray := prog_1_method_12_code
def y_Fu_run : MethodName := ⟨R_Fu, "run", "(IIII)I"⟩
abbrev b_Fu_areArguments : ByteArray := prog_1_method_16_code
def y_Fu_areArguments : MethodName := ⟨R_Fu, "areArguments", "(IIII)Z"⟩
abbrev b_Ma_perform : ByteArray := prog_5_method_5_code
def y_Ma_perform : MethodName := ⟨R_Ma, "perform", "(IIII)I"⟩
abbrev b_Va_forgetMade : ByteArray := prog_9_method_2_code
def y_Va_forgetMade : MethodName := ⟨R_Va, "forgetMade", "()V"⟩
abbrev b_Ma_hold : ByteArray := prog_5_method_8_code
def y_Ma_hold : MethodName := ⟨R_Ma, "hold", "(I)V"⟩
abbrev b_Ma_step : ByteArray := prog_5_method_10_code
def y_Ma_step : MethodName := ⟨R_Ma, "step", "(I)V"⟩
abbrev b_Ma_matchesAll : ByteArray := prog_5_method_11_code
def y_Ma_matchesAll : MethodName := ⟨R_Ma, "matchesAll", "(III)Z"⟩
abbrev b_Ma_matches : ByteArray := prog_5_method_12_code
def y_Ma_matches : MethodName := ⟨R_Ma, "matches", "(III)Z"⟩
abbrev b_Va_maker : ByteArray := prog_9_method_4_code
def y_Va_maker : MethodName := ⟨R_Va, "maker", "(I)I"⟩
abbrev b_Va_part : ByteArray := prog_9_method_6_code
def y_Va_part : MethodName := ⟨R_Va, "part", "(II)I"⟩
abbrev b_Ma_open : ByteArray := prog_5_method_7_code
def y_Ma_open : MethodName := ⟨R_Ma, "open", "(II)V"⟩
abbrev b_Ma_turn : ByteArray := prog_5_method_6_code
def y_Ma_turn : MethodName := ⟨R_Ma, "turn", "()V"⟩
abbrev b_Ma_build : ByteArray := prog_5_method_9_code
def y_Ma_build : MethodName := ⟨R_Ma, "build", "(II)V"⟩
abbrev b_Va_isFull : ByteArray := prog_9_method_3_code
def y_Va_isFull : MethodName := ⟨R_Va, "isFull", "()Z"⟩
abbrev b_Va_add : ByteArray := prog_9_method_8_code
def y_Va_add : MethodName := ⟨R_Va, "add", "(I[II)I"⟩
abbrev b_Va_size : ByteArray := prog_9_method_7_code
def y_Va_size : MethodName := ⟨R_Va, "size", "(I)I"⟩
abbrev b_Te_size : ByteArray := prog_7_method_11_code
def y_Te_size : MethodName := ⟨R_Te, "size", "(I)I"⟩
abbrev b_Ma_writeAnswer : ByteArray := prog_5_method_13_code
def y_Ma_writeAnswer : MethodName := ⟨R_Ma, "writeAnswer", "(I)V"⟩
abbrev b_Va_width : ByteArray := prog_9_method_5_code
def y_Va_width : MethodName := ⟨R_Va, "width", "(I)I"⟩
abbrev b_La_answer : ByteArray := method_11_code
def y_La_answer : MethodName := ⟨R_La, "answer", "(LSureFunctions;I[J)I"⟩
abbrev b_Fu_answer : ByteArray := prog_1_method_13_code
def y_Fu_answer : MethodName := ⟨R_Fu, "answer", "(I)I"⟩
abbrev b_Ma_answerSize : ByteArray := prog_5_method_3_code
def y_Ma_answerSize : MethodName := ⟨R_Ma, "answerSize", "()I"⟩
abbrev b_Ma_answerAt : ByteArray := prog_5_method_4_code
def y_Ma_answerAt : MethodName := ⟨R_Ma, "answerAt", "(I)I"⟩
abbrev b_Mo_init : ByteArray := prog_11_method_1_code
def y_Mo_init : MethodName := ⟨R_Mo, "<init>", "()V"⟩
abbrev b_Mo_thrown : ByteArray := prog_11_method_2_code
def y_Mo_thrown : MethodName := ⟨R_Mo, "thrown", "()I"⟩
abbrev b_Mo_constructor : ByteArray := prog_11_method_6_code
def y_Mo_constructor : MethodName := ⟨R_Mo, "constructor", "(IIII)I"⟩
abbrev b_Mo_wrongTypes : ByteArray := prog_11_method_5_code
def y_Mo_wrongTypes : MethodName := ⟨R_Mo, "wrongTypes", "(IIII)Z"⟩
abbrev b_Mo_outside : ByteArray := prog_11_method_3_code
def y_Mo_outside : MethodName := ⟨R_Mo, "outside", "(II)Z"⟩
abbrev b_Mo_many : ByteArray := prog_11_method_4_code
def y_Mo_many : MethodName := ⟨R_Mo, "many", "(III)I"⟩
abbrev b_Mo_function : ByteArray := prog_11_method_7_code
def y_Mo_function : MethodName := ⟨R_Mo, "function", "(IIII)I"⟩
abbrev b_Mo_variable : ByteArray := prog_11_method_10_code
def y_Mo_variable : MethodName := ⟨R_Mo, "variable", "(I)I"⟩
abbrev b_Mo_make : ByteArray := prog_11_method_12_code
def y_Mo_make : MethodName := ⟨R_Mo, "make", "(IIII)I"⟩
abbrev b_Mo_build : ByteArray := prog_11_method_11_code
def y_Mo_build : MethodName := ⟨R_Mo, "build", "(IIIII)I"⟩
abbrev b_Mo_isTerm : ByteArray := prog_11_method_8_code
def y_Mo_isTerm : MethodName := ⟨R_Mo, "isTerm", "(I)Z"⟩
abbrev b_Mo_call : ByteArray := prog_11_method_13_code
def y_Mo_call : MethodName := ⟨R_Mo, "call", "(IIII)I"⟩
abbrev b_Mo_clause : ByteArray := prog_11_method_19_code
def y_Mo_clause : MethodName := ⟨R_Mo, "clause", "(IIIII)I"⟩
abbrev b_Mo_isClause : ByteArray := prog_11_method_18_code
def y_Mo_isClause : MethodName := ⟨R_Mo, "isClause", "(IIIII)Z"⟩
abbrev b_Mo_isPattern : ByteArray := prog_11_method_16_code
def y_Mo_isPattern : MethodName := ⟨R_Mo, "isPattern", "(I)Z"⟩
abbrev b_Mo_push : ByteArray := prog_11_method_14_code
def y_Mo_push : MethodName := ⟨R_Mo, "push", "(II)V"⟩
abbrev b_Mo_pushBelow : ByteArray := prog_11_method_15_code
def y_Mo_pushBelow : MethodName := ⟨R_Mo, "pushBelow", "(I)V"⟩
abbrev b_Mo_places : ByteArray := prog_11_method_9_code
def y_Mo_places : MethodName := ⟨R_Mo, "places", "(I)I"⟩
abbrev b_Mo_isBody : ByteArray := prog_11_method_17_code
def y_Mo_isBody : MethodName := ⟨R_Mo, "isBody", "(I)Z"⟩
abbrev b_Mo_check : ByteArray := prog_11_method_37_code
def y_Mo_check : MethodName := ⟨R_Mo, "check", "()I"⟩
abbrev b_Mo_allInhabited : ByteArray := prog_11_method_20_code
def y_Mo_allInhabited : MethodName := ⟨R_Mo, "allInhabited", "()Z"⟩
abbrev b_Mo_allTyped : ByteArray := prog_11_method_22_code
def y_Mo_allTyped : MethodName := ⟨R_Mo, "allTyped", "()Z"⟩
abbrev b_Mo_isTyped : ByteArray := prog_11_method_21_code
def y_Mo_isTyped : MethodName := ⟨R_Mo, "isTyped", "(IIZ)Z"⟩
abbrev b_Mo_isCovered : ByteArray := prog_11_method_26_code
def y_Mo_isCovered : MethodName := ⟨R_Mo, "isCovered", "(I)Z"⟩
abbrev b_Mo_stands : ByteArray := prog_11_method_24_code
def y_Mo_stands : MethodName := ⟨R_Mo, "stands", "(II)I"⟩
abbrev b_Mo_wants : ByteArray := prog_11_method_23_code
def y_Mo_wants : MethodName := ⟨R_Mo, "wants", "(II)I"⟩
abbrev b_Mo_splitAt : ByteArray := prog_11_method_27_code
def y_Mo_splitAt : MethodName := ⟨R_Mo, "splitAt", "(III)I"⟩
abbrev b_Mo_typeAt : ByteArray := prog_11_method_25_code
def y_Mo_typeAt : MethodName := ⟨R_Mo, "typeAt", "(III)I"⟩
abbrev b_Mo_isEnding : ByteArray := prog_11_method_36_code
def y_Mo_isEnding : MethodName := ⟨R_Mo, "isEnding", "()Z"⟩
abbrev b_Mo_callGraphs : ByteArray := prog_11_method_35_code
def y_Mo_callGraphs : MethodName := ⟨R_Mo, "callGraphs", "()V"⟩
abbrev b_Mo_callOf : ByteArray := prog_11_method_30_code
def y_Mo_callOf : MethodName := ⟨R_Mo, "callOf", "(II)I"⟩
abbrev b_Mo_arcOf : ByteArray := prog_11_method_31_code
def y_Mo_arcOf : MethodName := ⟨R_Mo, "arcOf", "(IIII)I"⟩
abbrev b_Mo_inside : ByteArray := prog_11_method_29_code
def y_Mo_inside : MethodName := ⟨R_Mo, "inside", "(II)I"⟩
abbrev b_Mo_alike : ByteArray := prog_11_method_28_code
def y_Mo_alike : MethodName := ⟨R_Mo, "alike", "(II)Z"⟩
abbrev b_Mo_addGraph : ByteArray := prog_11_method_32_code
def y_Mo_addGraph : MethodName := ⟨R_Mo, "addGraph", "(III)V"⟩
abbrev b_Mo_composed : ByteArray := prog_11_method_34_code
def y_Mo_composed : MethodName := ⟨R_Mo, "composed", "(II)I"⟩
abbrev b_Mo_arcAt : ByteArray := prog_11_method_33_code
def y_Mo_arcAt : MethodName := ⟨R_Mo, "arcAt", "(III)I"⟩
abbrev b_Mo_graphs : ByteArray := prog_11_method_38_code
def y_Mo_graphs : MethodName := ⟨R_Mo, "graphs", "()I"⟩
abbrev b_Mo_arc : ByteArray := prog_11_method_39_code
def y_Mo_arc : MethodName := ⟨R_Mo, "arc", "(IIII)I"⟩
abbrev b_Mo_isValue : ByteArray := prog_11_method_41_code
def y_Mo_isValue : MethodName := ⟨R_Mo, "isValue", "(II)Z"⟩
abbrev b_Mo_isClosed : ByteArray := prog_11_method_40_code
def y_Mo_isClosed : MethodName := ⟨R_Mo, "isClosed", "(I)Z"⟩
abbrev b_Mo_run : ByteArray := prog_11_method_50_code
def y_Mo_run : MethodName := ⟨R_Mo, "run", "(IIII)I"⟩
abbrev b_Mo_give : ByteArray := prog_11_method_48_code
def y_Mo_give : MethodName := ⟨R_Mo, "give", "(I)V"⟩
abbrev b_Mo_doLater : ByteArray := prog_11_method_42_code
def y_Mo_doLater : MethodName := ⟨R_Mo, "doLater", "(II)V"⟩
abbrev b_Mo_evaluate : ByteArray := prog_11_method_44_code
def y_Mo_evaluate : MethodName := ⟨R_Mo, "evaluate", "(II)V"⟩
abbrev b_Mo_hold : ByteArray := prog_11_method_43_code
def y_Mo_hold : MethodName := ⟨R_Mo, "hold", "(I)V"⟩
abbrev b_Mo_finished : ByteArray := prog_11_method_47_code
def y_Mo_finished : MethodName := ⟨R_Mo, "finished", "()Z"⟩
abbrev b_Mo_enter : ByteArray := prog_11_method_46_code
def y_Mo_enter : MethodName := ⟨R_Mo, "enter", "(I)Z"⟩
abbrev b_Mo_matches : ByteArray := prog_11_method_45_code
def y_Mo_matches : MethodName := ⟨R_Mo, "matches", "(III)Z"⟩
abbrev b_Mo_write : ByteArray := prog_11_method_49_code
def y_Mo_write : MethodName := ⟨R_Mo, "write", "(I)V"⟩
abbrev b_Mo_answer : ByteArray := prog_11_method_51_code
def y_Mo_answer : MethodName := ⟨R_Mo, "answer", "(I)I"⟩
abbrev b_Mo_count : ByteArray := prog_11_method_52_code
def y_Mo_count : MethodName := ⟨R_Mo, "count", "(I)I"⟩
def g_nest : List (String × Nat × MethodName × String) := [(R_Sg, 28, y_Fu_leadingPlaces, R_Fu), (R_Sg, 32, y_Fu_pick, R_Fu), (R_Te, 44, y_Fu_pick, R_Fu), (R_Cl, 39, y_Fu_pick, R_Fu), (R_Ma, 77, y_Fu_pick, R_Fu)]
theorem gm_0 : (Cond.initialized R_La : Cond) ∈ gw := gw_of (List.mem_append_left _ (List.mem_of_getElem? (i := 0) (by decide +kernel))) rfl
theorem gm_1 : (Cond.initialized R_Fu : Cond) ∈ gw := gw_of (List.mem_append_left _ (List.mem_of_getElem? (i := 1) (by decide +kernel))) rfl
theorem gm_2 : (Cond.initialized R_Sg : Cond) ∈ gw := gw_of (List.mem_append_left _ (List.mem_of_getElem? (i := 2) (by decide +kernel))) rfl
theorem gm_3 : (Cond.initialized R_Te : Cond) ∈ gw := gw_of (List.mem_append_left _ (List.mem_of_getElem? (i := 3) (by decide +kernel))) rfl
theorem gm_4 : (Cond.initialized R_Cl : Cond) ∈ gw := gw_of (List.mem_append_left _ (List.mem_of_getElem? (i := 4) (by decide +kernel))) rfl
theorem gm_5 : (Cond.initialized R_Ty : Cond) ∈ gw := gw_of (List.mem_append_left _ (List.mem_of_getElem? (i := 5) (by decide +kernel))) rfl
theorem gm_6 : (Cond.initialized R_Co : Cond) ∈ gw := gw_of (List.mem_append_left _ (List.mem_of_getElem? (i := 6) (by decide +kernel))) rfl
theorem gm_7 : (Cond.initialized R_En : Cond) ∈ gw := gw_of (List.mem_append_left _ (List.mem_of_getElem? (i := 7) (by decide +kernel))) rfl
theorem gm_8 : (Cond.initialized R_Ma : Cond) ∈ gw := gw_of (List.mem_append_left _ (List.mem_of_getElem? (i := 8) (by decide +kernel))) rfl
theorem gm_9 : (Cond.initialized R_Va : Cond) ∈ gw := gw_of (List.mem_append_left _ (List.mem_of_getElem? (i := 9) (by decide +kernel))) rfl
theorem gm_10 : (Cond.initialized R_Mo : Cond) ∈ gw := gw_of (List.mem_append_left _ (List.mem_of_getElem? (i := 10) (by decide +kernel))) rfl
theorem gm_11 : (Cond.initialized R_Jm : Cond) ∈ gw := gw_of (List.mem_append_left _ (List.mem_of_getElem? (i := 16) (by decide +kernel))) rfl
theorem gm_12 : (Cond.classLink R_La 8 R_Fu : Cond) ∈ gw := gw_of (List.mem_append_left _ (List.mem_of_getElem? (i := 18) (by decide +kernel))) rfl
theorem gm_13 : (Cond.instantiable R_Fu 10 : Cond) ∈ gw := gw_of (List.mem_append_left _ (List.mem_of_getElem? (i := 19) (by decide +kernel))) rfl
theorem gm_14 : (Cond.methodLink R_La 45 y_Fu_init : Cond) ∈ gw := gw_of (List.mem_append_left _ (List.mem_of_getElem? (i := 20) (by decide +kernel))) rfl
theorem gm_15 : (Cond.instanceMethod y_Fu_init : Cond) ∈ gw := gw_of (List.mem_append_left _ (List.mem_of_getElem? (i := 21) (by decide +kernel))) rfl
theorem gm_16 : (Cond.code y_Fu_init b_Fu_init 1 none : Cond) ∈ gw := gw_of (List.mem_append_left _ (List.mem_of_getElem? (i := 22) (by decide +kernel))) rfl
theorem gm_17 : (Cond.methodLink R_Fu 1 objectInit : Cond) ∈ gw := gw_of (List.mem_append_left _ (List.mem_of_getElem? (i := 23) (by decide +kernel))) rfl
theorem gm_18 : (Cond.instanceMethod objectInit : Cond) ∈ gw := gw_of (List.mem_append_left _ (List.mem_of_getElem? (i := 24) (by decide +kernel))) rfl
theorem gm_19 : (Cond.code objectInit ⟨#[0xb1]⟩ 1 none : Cond) ∈ gw := gw_of (List.mem_append_left _ (List.mem_of_getElem? (i := 25) (by decide +kernel))) rfl
theorem gm_20 : (Cond.classLink R_Fu 7 R_Sg : Cond) ∈ gw := gw_of (List.mem_append_left _ (List.mem_of_getElem? (i := 26) (by decide +kernel))) rfl
theorem gm_21 : (Cond.instantiable R_Sg 5 : Cond) ∈ gw := gw_of (List.mem_append_left _ (List.mem_of_getElem? (i := 27) (by decide +kernel))) rfl
theorem gm_22 : (Cond.methodLink R_Fu 11 y_Sg_init : Cond) ∈ gw := gw_of (List.mem_append_left _ (List.mem_of_getElem? (i := 28) (by decide +kernel))) rfl
theorem gm_23 : (Cond.instanceMethod y_Sg_init : Cond) ∈ gw := gw_of (List.mem_append_left _ (List.mem_of_getElem? (i := 29) (by decide +kernel))) rfl
theorem gm_24 : (Cond.code y_Sg_init b_Sg_init 2 none : Cond) ∈ gw := gw_of (List.mem_append_left _ (List.mem_of_getElem? (i := 30) (by decide +kernel))) rfl
theorem gm_25 : (Cond.methodLink R_Sg 3 objectInit : Cond) ∈ gw := gw_of (List.mem_append_left _ (List.mem_of_getElem? (i := 31) (by decide +kernel))) rfl
theorem gm_26 : (Cond.fieldLink R_Sg 9 "SureFunctions$Signatures" "most" "I" : Cond) ∈ gw := gw_of (List.mem_append_left _ (List.mem_of_getElem? (i := 32) (by decide +kernel))) rfl
theorem gm_27 : (Cond.fieldLink R_Sg 15 "SureFunctions$Signatures" "type" "[I" : Cond) ∈ gw := gw_of (List.mem_append_left _ (List.mem_of_getElem? (i := 33) (by decide +kernel))) rfl
theorem gm_28 : (Cond.fieldLink R_Sg 19 "SureFunctions$Signatures" "width" "[I" : Cond) ∈ gw := gw_of (List.mem_append_left _ (List.mem_of_getElem? (i := 34) (by decide +kernel))) rfl
theorem gm_29 : (Cond.fieldLink R_Sg 22 "SureFunctions$Signatures" "placeType" "[I" : Cond) ∈ gw := gw_of (List.mem_append_left _ (List.mem_of_getElem? (i := 35) (by decide +kernel))) rfl
theorem gm_30 : (Cond.fieldLink R_Sg 25 "SureFunctions$Signatures" "many" "I" : Cond) ∈ gw := gw_of (List.mem_append_left _ (List.mem_of_getElem? (i := 36) (by decide +kernel))) rfl
theorem gm_31 : (Cond.laysFinal R_Sg "SureFunctions$Signatures" "most" "I" : Cond) ∈ gw := gw_of (List.mem_append_left _ (List.mem_of_getElem? (i := 37) (by decide +kernel))) rfl
theorem gm_32 : (Cond.laysFinal R_Sg "SureFunctions$Signatures" "type" "[I" : Cond) ∈ gw := gw_of (List.mem_append_left _ (List.mem_of_getElem? (i := 39) (by decide +kernel))) rfl
theorem gm_33 : (Cond.laysFinal R_Sg "SureFunctions$Signatures" "width" "[I" : Cond) ∈ gw := gw_of (List.mem_append_left _ (List.mem_of_getElem? (i := 41) (by decide +kernel))) rfl
theorem gm_34 : (Cond.laysFinal R_Sg "SureFunctions$Signatures" "placeType" "[I" : Cond) ∈ gw := gw_of (List.mem_append_left _ (List.mem_of_getElem? (i := 43) (by decide +kernel))) rfl
theorem gm_35 : (Cond.lays R_Sg "SureFunctions$Signatures" "many" "I" : Cond) ∈ gw := gw_of (List.mem_append_left _ (List.mem_of_getElem? (i := 45) (by decide +kernel))) rfl
theorem gm_36 : (Cond.arrayClass .int : Cond) ∈ gw := gw_of (List.mem_append_left _ (List.mem_of_getElem? (i := 48) (by decide +kernel))) rfl
theorem gm_37 : (Cond.classLink R_Fu 21 R_Te : Cond) ∈ gw := gw_of (List.mem_append_left _ (List.mem_of_getElem? (i := 49) (by decide +kernel))) rfl
theorem gm_38 : (Cond.instantiable R_Te 10 : Cond) ∈ gw := gw_of (List.mem_append_left _ (List.mem_of_getElem? (i := 50) (by decide +kernel))) rfl
theorem gm_39 : (Cond.methodLink R_Fu 23 y_Te_init : Cond) ∈ gw := gw_of (List.mem_append_left _ (List.mem_of_getElem? (i := 51) (by decide +kernel))) rfl
theorem gm_40 : (Cond.instanceMethod y_Te_init : Cond) ∈ gw := gw_of (List.mem_append_left _ (List.mem_of_getElem? (i := 52) (by decide +kernel))) rfl
theorem gm_41 : (Cond.code y_Te_init b_Te_init 1 none : Cond) ∈ gw := gw_of (List.mem_append_left _ (List.mem_of_getElem? (i := 53) (by decide +kernel))) rfl
theorem gm_42 : (Cond.methodLink R_Te 3 objectInit : Cond) ∈ gw := gw_of (List.mem_append_left _ (List.mem_of_getElem? (i := 54) (by decide +kernel))) rfl
theorem gm_43 : (Cond.fieldLink R_Te 9 "SureFunctions$Terms" "kind" "[I" : Cond) ∈ gw := gw_of (List.mem_append_left _ (List.mem_of_getElem? (i := 55) (by decide +kernel))) rfl
theorem gm_44 : (Cond.fieldLink R_Te 15 "SureFunctions$Terms" "head" "[I" : Cond) ∈ gw := gw_of (List.mem_append_left _ (List.mem_of_getElem? (i := 56) (by decide +kernel))) rfl
theorem gm_45 : (Cond.fieldLink R_Te 18 "SureFunctions$Terms" "width" "[I" : Cond) ∈ gw := gw_of (List.mem_append_left _ (List.mem_of_getElem? (i := 57) (by decide +kernel))) rfl
theorem gm_46 : (Cond.fieldLink R_Te 21 "SureFunctions$Terms" "part" "[I" : Cond) ∈ gw := gw_of (List.mem_append_left _ (List.mem_of_getElem? (i := 58) (by decide +kernel))) rfl
theorem gm_47 : (Cond.fieldLink R_Te 24 "SureFunctions$Terms" "height" "[I" : Cond) ∈ gw := gw_of (List.mem_append_left _ (List.mem_of_getElem? (i := 59) (by decide +kernel))) rfl
theorem gm_48 : (Cond.fieldLink R_Te 27 "SureFunctions$Terms" "size" "[I" : Cond) ∈ gw := gw_of (List.mem_append_left _ (List.mem_of_getElem? (i := 60) (by decide +kernel))) rfl
theorem gm_49 : (Cond.fieldLink R_Te 30 "SureFunctions$Terms" "variables" "[I" : Cond) ∈ gw := gw_of (List.mem_append_left _ (List.mem_of_getElem? (i := 61) (by decide +kernel))) rfl
theorem gm_50 : (Cond.fieldLink R_Te 33 "SureFunctions$Terms" "hasCall" "[Z" : Cond) ∈ gw := gw_of (List.mem_append_left _ (List.mem_of_getElem? (i := 62) (by decide +kernel))) rfl
theorem gm_51 : (Cond.fieldLink R_Te 37 "SureFunctions$Terms" "hasVariableTwice" "[Z" : Cond) ∈ gw := gw_of (List.mem_append_left _ (List.mem_of_getElem? (i := 63) (by decide +kernel))) rfl
theorem gm_52 : (Cond.fieldLink R_Te 40 "SureFunctions$Terms" "many" "I" : Cond) ∈ gw := gw_of (List.mem_append_left _ (List.mem_of_getElem? (i := 64) (by decide +kernel))) rfl
theorem gm_53 : (Cond.laysFinal R_Te "SureFunctions$Terms" "kind" "[I" : Cond) ∈ gw := gw_of (List.mem_append_left _ (List.mem_of_getElem? (i := 65) (by decide +kernel))) rfl
theorem gm_54 : (Cond.laysFinal R_Te "SureFunctions$Terms" "head" "[I" : Cond) ∈ gw := gw_of (List.mem_append_left _ (List.mem_of_getElem? (i := 67) (by decide +kernel))) rfl
theorem gm_55 : (Cond.laysFinal R_Te "SureFunctions$Terms" "width" "[I" : Cond) ∈ gw := gw_of (List.mem_append_left _ (List.mem_of_getElem? (i := 69) (by decide +kernel))) rfl
theorem gm_56 : (Cond.laysFinal R_Te "SureFunctions$Terms" "part" "[I" : Cond) ∈ gw := gw_of (List.mem_append_left _ (List.mem_of_getElem? (i := 71) (by decide +kernel))) rfl
theorem gm_57 : (Cond.laysFinal R_Te "SureFunctions$Terms" "height" "[I" : Cond) ∈ gw := gw_of (List.mem_append_left _ (List.mem_of_getElem? (i := 73) (by decide +kernel))) rfl
theorem gm_58 : (Cond.laysFinal R_Te "SureFunctions$Terms" "size" "[I" : Cond) ∈ gw := gw_of (List.mem_append_left _ (List.mem_of_getElem? (i := 75) (by decide +kernel))) rfl
theorem gm_59 : (Cond.laysFinal R_Te "SureFunctions$Terms" "variables" "[I" : Cond) ∈ gw := gw_of (List.mem_append_left _ (List.mem_of_getElem? (i := 77) (by decide +kernel))) rfl
theorem gm_60 : (Cond.laysFinal R_Te "SureFunctions$Terms" "hasCall" "[Z" : Cond) ∈ gw := gw_of (List.mem_append_left _ (List.mem_of_getElem? (i := 79) (by decide +kernel))) rfl
theorem gm_61 : (Cond.laysFinal R_Te "SureFunctions$Terms" "hasVariableTwice" "[Z" : Cond) ∈ gw := gw_of (List.mem_append_left _ (List.mem_of_getElem? (i := 81) (by decide +kernel))) rfl
theorem gm_62 : (Cond.lays R_Te "SureFunctions$Terms" "many" "I" : Cond) ∈ gw := gw_of (List.mem_append_left _ (List.mem_of_getElem? (i := 83) (by decide +kernel))) rfl
theorem gm_63 : (Cond.arrayClass .boolean : Cond) ∈ gw := gw_of (List.mem_append_left _ (List.mem_of_getElem? (i := 86) (by decide +kernel))) rfl
theorem gm_64 : (Cond.classLink R_Fu 28 R_Cl : Cond) ∈ gw := gw_of (List.mem_append_left _ (List.mem_of_getElem? (i := 87) (by decide +kernel))) rfl
theorem gm_65 : (Cond.instantiable R_Cl 8 : Cond) ∈ gw := gw_of (List.mem_append_left _ (List.mem_of_getElem? (i := 88) (by decide +kernel))) rfl
theorem gm_66 : (Cond.methodLink R_Fu 30 y_Cl_init : Cond) ∈ gw := gw_of (List.mem_append_left _ (List.mem_of_getElem? (i := 89) (by decide +kernel))) rfl
theorem gm_67 : (Cond.instanceMethod y_Cl_init : Cond) ∈ gw := gw_of (List.mem_append_left _ (List.mem_of_getElem? (i := 90) (by decide +kernel))) rfl
theorem gm_68 : (Cond.code y_Cl_init b_Cl_init 3 none : Cond) ∈ gw := gw_of (List.mem_append_left _ (List.mem_of_getElem? (i := 91) (by decide +kernel))) rfl
theorem gm_69 : (Cond.methodLink R_Cl 3 objectInit : Cond) ∈ gw := gw_of (List.mem_append_left _ (List.mem_of_getElem? (i := 92) (by decide +kernel))) rfl
theorem gm_70 : (Cond.fieldLink R_Cl 9 "SureFunctions$Clauses" "functions" "LSureFunctions$Signatures;" : Cond) ∈ gw := gw_of (List.mem_append_left _ (List.mem_of_getElem? (i := 93) (by decide +kernel))) rfl
theorem gm_71 : (Cond.fieldLink R_Cl 15 "SureFunctions$Clauses" "terms" "LSureFunctions$Terms;" : Cond) ∈ gw := gw_of (List.mem_append_left _ (List.mem_of_getElem? (i := 94) (by decide +kernel))) rfl
theorem gm_72 : (Cond.fieldLink R_Cl 19 "SureFunctions$Clauses" "owner" "[I" : Cond) ∈ gw := gw_of (List.mem_append_left _ (List.mem_of_getElem? (i := 95) (by decide +kernel))) rfl
theorem gm_73 : (Cond.fieldLink R_Cl 23 "SureFunctions$Clauses" "pattern" "[I" : Cond) ∈ gw := gw_of (List.mem_append_left _ (List.mem_of_getElem? (i := 96) (by decide +kernel))) rfl
theorem gm_74 : (Cond.fieldLink R_Cl 26 "SureFunctions$Clauses" "body" "[I" : Cond) ∈ gw := gw_of (List.mem_append_left _ (List.mem_of_getElem? (i := 97) (by decide +kernel))) rfl
theorem gm_75 : (Cond.fieldLink R_Cl 29 "SureFunctions$Clauses" "ofFunction" "[I" : Cond) ∈ gw := gw_of (List.mem_append_left _ (List.mem_of_getElem? (i := 98) (by decide +kernel))) rfl
theorem gm_76 : (Cond.fieldLink R_Cl 32 "SureFunctions$Clauses" "manyOfFunction" "[I" : Cond) ∈ gw := gw_of (List.mem_append_left _ (List.mem_of_getElem? (i := 99) (by decide +kernel))) rfl
theorem gm_77 : (Cond.fieldLink R_Cl 35 "SureFunctions$Clauses" "many" "I" : Cond) ∈ gw := gw_of (List.mem_append_left _ (List.mem_of_getElem? (i := 100) (by decide +kernel))) rfl
theorem gm_78 : (Cond.laysFinal R_Cl "SureFunctions$Clauses" "functions" "LSureFunctions$Signatures;" : Cond) ∈ gw := gw_of (List.mem_append_left _ (List.mem_of_getElem? (i := 101) (by decide +kernel))) rfl
theorem gm_79 : (Cond.laysFinal R_Cl "SureFunctions$Clauses" "terms" "LSureFunctions$Terms;" : Cond) ∈ gw := gw_of (List.mem_append_left _ (List.mem_of_getElem? (i := 103) (by decide +kernel))) rfl
theorem gm_80 : (Cond.laysFinal R_Cl "SureFunctions$Clauses" "owner" "[I" : Cond) ∈ gw := gw_of (List.mem_append_left _ (List.mem_of_getElem? (i := 105) (by decide +kernel))) rfl
theorem gm_81 : (Cond.laysFinal R_Cl "SureFunctions$Clauses" "pattern" "[I" : Cond) ∈ gw := gw_of (List.mem_append_left _ (List.mem_of_getElem? (i := 107) (by decide +kernel))) rfl
theorem gm_82 : (Cond.laysFinal R_Cl "SureFunctions$Clauses" "body" "[I" : Cond) ∈ gw := gw_of (List.mem_append_left _ (List.mem_of_getElem? (i := 109) (by decide +kernel))) rfl
theorem gm_83 : (Cond.laysFinal R_Cl "SureFunctions$Clauses" "ofFunction" "[I" : Cond) ∈ gw := gw_of (List.mem_append_left _ (List.mem_of_getElem? (i := 111) (by decide +kernel))) rfl
theorem gm_84 : (Cond.laysFinal R_Cl "SureFunctions$Clauses" "manyOfFunction" "[I" : Cond) ∈ gw := gw_of (List.mem_append_left _ (List.mem_of_getElem? (i := 113) (by decide +kernel))) rfl
theorem gm_85 : (Cond.lays R_Cl "SureFunctions$Clauses" "many" "I" : Cond) ∈ gw := gw_of (List.mem_append_left _ (List.mem_of_getElem? (i := 115) (by decide +kernel))) rfl
theorem gm_86 : (Cond.classLink R_Fu 37 R_Ty : Cond) ∈ gw := gw_of (List.mem_append_left _ (List.mem_of_getElem? (i := 118) (by decide +kernel))) rfl
theorem gm_87 : (Cond.instantiable R_Ty 5 : Cond) ∈ gw := gw_of (List.mem_append_left _ (List.mem_of_getElem? (i := 119) (by decide +kernel))) rfl
theorem gm_88 : (Cond.methodLink R_Fu 39 y_Ty_init : Cond) ∈ gw := gw_of (List.mem_append_left _ (List.mem_of_getElem? (i := 120) (by decide +kernel))) rfl
theorem gm_89 : (Cond.instanceMethod y_Ty_init : Cond) ∈ gw := gw_of (List.mem_append_left _ (List.mem_of_getElem? (i := 121) (by decide +kernel))) rfl
theorem gm_90 : (Cond.code y_Ty_init b_Ty_init 5 none : Cond) ∈ gw := gw_of (List.mem_append_left _ (List.mem_of_getElem? (i := 122) (by decide +kernel))) rfl
theorem gm_91 : (Cond.methodLink R_Ty 3 objectInit : Cond) ∈ gw := gw_of (List.mem_append_left _ (List.mem_of_getElem? (i := 123) (by decide +kernel))) rfl
theorem gm_92 : (Cond.fieldLink R_Ty 9 "SureFunctions$Typing" "constructors" "LSureFunctions$Signatures;" : Cond) ∈ gw := gw_of (List.mem_append_left _ (List.mem_of_getElem? (i := 124) (by decide +kernel))) rfl
theorem gm_93 : (Cond.fieldLink R_Ty 15 "SureFunctions$Typing" "functions" "LSureFunctions$Signatures;" : Cond) ∈ gw := gw_of (List.mem_append_left _ (List.mem_of_getElem? (i := 125) (by decide +kernel))) rfl
theorem gm_94 : (Cond.fieldLink R_Ty 18 "SureFunctions$Typing" "terms" "LSureFunctions$Terms;" : Cond) ∈ gw := gw_of (List.mem_append_left _ (List.mem_of_getElem? (i := 126) (by decide +kernel))) rfl
theorem gm_95 : (Cond.fieldLink R_Ty 22 "SureFunctions$Typing" "clauses" "LSureFunctions$Clauses;" : Cond) ∈ gw := gw_of (List.mem_append_left _ (List.mem_of_getElem? (i := 127) (by decide +kernel))) rfl
theorem gm_96 : (Cond.fieldLink R_Ty 26 "SureFunctions$Typing" "variableType" "[I" : Cond) ∈ gw := gw_of (List.mem_append_left _ (List.mem_of_getElem? (i := 128) (by decide +kernel))) rfl
theorem gm_97 : (Cond.laysFinal R_Ty "SureFunctions$Typing" "constructors" "LSureFunctions$Signatures;" : Cond) ∈ gw := gw_of (List.mem_append_left _ (List.mem_of_getElem? (i := 129) (by decide +kernel))) rfl
theorem gm_98 : (Cond.laysFinal R_Ty "SureFunctions$Typing" "functions" "LSureFunctions$Signatures;" : Cond) ∈ gw := gw_of (List.mem_append_left _ (List.mem_of_getElem? (i := 131) (by decide +kernel))) rfl
theorem gm_99 : (Cond.laysFinal R_Ty "SureFunctions$Typing" "terms" "LSureFunctions$Terms;" : Cond) ∈ gw := gw_of (List.mem_append_left _ (List.mem_of_getElem? (i := 133) (by decide +kernel))) rfl
theorem gm_100 : (Cond.laysFinal R_Ty "SureFunctions$Typing" "clauses" "LSureFunctions$Clauses;" : Cond) ∈ gw := gw_of (List.mem_append_left _ (List.mem_of_getElem? (i := 135) (by decide +kernel))) rfl
theorem gm_101 : (Cond.laysFinal R_Ty "SureFunctions$Typing" "variableType" "[I" : Cond) ∈ gw := gw_of (List.mem_append_left _ (List.mem_of_getElem? (i := 137) (by decide +kernel))) rfl
theorem gm_102 : (Cond.classLink R_Fu 46 R_Co : Cond) ∈ gw := gw_of (List.mem_append_left _ (List.mem_of_getElem? (i := 140) (by decide +kernel))) rfl
theorem gm_103 : (Cond.instantiable R_Co 6 : Cond) ∈ gw := gw_of (List.mem_append_left _ (List.mem_of_getElem? (i := 141) (by decide +kernel))) rfl
theorem gm_104 : (Cond.methodLink R_Fu 48 y_Co_init : Cond) ∈ gw := gw_of (List.mem_append_left _ (List.mem_of_getElem? (i := 142) (by decide +kernel))) rfl
theorem gm_105 : (Cond.instanceMethod y_Co_init : Cond) ∈ gw := gw_of (List.mem_append_left _ (List.mem_of_getElem? (i := 143) (by decide +kernel))) rfl
theorem gm_106 : (Cond.code y_Co_init b_Co_init 5 none : Cond) ∈ gw := gw_of (List.mem_append_left _ (List.mem_of_getElem? (i := 144) (by decide +kernel))) rfl
theorem gm_107 : (Cond.methodLink R_Co 5 objectInit : Cond) ∈ gw := gw_of (List.mem_append_left _ (List.mem_of_getElem? (i := 145) (by decide +kernel))) rfl
theorem gm_108 : (Cond.fieldLink R_Co 11 "SureFunctions$Coverage" "constructors" "LSureFunctions$Signatures;" : Cond) ∈ gw := gw_of (List.mem_append_left _ (List.mem_of_getElem? (i := 146) (by decide +kernel))) rfl
theorem gm_109 : (Cond.fieldLink R_Co 15 "SureFunctions$Coverage" "functions" "LSureFunctions$Signatures;" : Cond) ∈ gw := gw_of (List.mem_append_left _ (List.mem_of_getElem? (i := 147) (by decide +kernel))) rfl
theorem gm_110 : (Cond.fieldLink R_Co 18 "SureFunctions$Coverage" "terms" "LSureFunctions$Terms;" : Cond) ∈ gw := gw_of (List.mem_append_left _ (List.mem_of_getElem? (i := 148) (by decide +kernel))) rfl
theorem gm_111 : (Cond.fieldLink R_Co 22 "SureFunctions$Coverage" "clauses" "LSureFunctions$Clauses;" : Cond) ∈ gw := gw_of (List.mem_append_left _ (List.mem_of_getElem? (i := 149) (by decide +kernel))) rfl
theorem gm_112 : (Cond.fieldLink R_Co 26 "SureFunctions$Coverage" "wanted" "[I" : Cond) ∈ gw := gw_of (List.mem_append_left _ (List.mem_of_getElem? (i := 150) (by decide +kernel))) rfl
theorem gm_113 : (Cond.fieldLink R_Co 30 "SureFunctions$Coverage" "filled" "[I" : Cond) ∈ gw := gw_of (List.mem_append_left _ (List.mem_of_getElem? (i := 151) (by decide +kernel))) rfl
theorem gm_114 : (Cond.laysFinal R_Co "SureFunctions$Coverage" "constructors" "LSureFunctions$Signatures;" : Cond) ∈ gw := gw_of (List.mem_append_left _ (List.mem_of_getElem? (i := 152) (by decide +kernel))) rfl
theorem gm_115 : (Cond.laysFinal R_Co "SureFunctions$Coverage" "functions" "LSureFunctions$Signatures;" : Cond) ∈ gw := gw_of (List.mem_append_left _ (List.mem_of_getElem? (i := 154) (by decide +kernel))) rfl
theorem gm_116 : (Cond.laysFinal R_Co "SureFunctions$Coverage" "terms" "LSureFunctions$Terms;" : Cond) ∈ gw := gw_of (List.mem_append_left _ (List.mem_of_getElem? (i := 156) (by decide +kernel))) rfl
theorem gm_117 : (Cond.laysFinal R_Co "SureFunctions$Coverage" "clauses" "LSureFunctions$Clauses;" : Cond) ∈ gw := gw_of (List.mem_append_left _ (List.mem_of_getElem? (i := 158) (by decide +kernel))) rfl
theorem gm_118 : (Cond.laysFinal R_Co "SureFunctions$Coverage" "wanted" "[I" : Cond) ∈ gw := gw_of (List.mem_append_left _ (List.mem_of_getElem? (i := 160) (by decide +kernel))) rfl
theorem gm_119 : (Cond.laysFinal R_Co "SureFunctions$Coverage" "filled" "[I" : Cond) ∈ gw := gw_of (List.mem_append_left _ (List.mem_of_getElem? (i := 162) (by decide +kernel))) rfl
theorem gm_120 : (Cond.classLink R_Fu 53 R_En : Cond) ∈ gw := gw_of (List.mem_append_left _ (List.mem_of_getElem? (i := 165) (by decide +kernel))) rfl
theorem gm_121 : (Cond.instantiable R_En 9 : Cond) ∈ gw := gw_of (List.mem_append_left _ (List.mem_of_getElem? (i := 166) (by decide +kernel))) rfl
theorem gm_122 : (Cond.methodLink R_Fu 55 y_En_init : Cond) ∈ gw := gw_of (List.mem_append_left _ (List.mem_of_getElem? (i := 167) (by decide +kernel))) rfl
theorem gm_123 : (Cond.instanceMethod y_En_init : Cond) ∈ gw := gw_of (List.mem_append_left _ (List.mem_of_getElem? (i := 168) (by decide +kernel))) rfl
theorem gm_124 : (Cond.code y_En_init b_En_init 4 none : Cond) ∈ gw := gw_of (List.mem_append_left _ (List.mem_of_getElem? (i := 169) (by decide +kernel))) rfl
theorem gm_125 : (Cond.methodLink R_En 5 objectInit : Cond) ∈ gw := gw_of (List.mem_append_left _ (List.mem_of_getElem? (i := 170) (by decide +kernel))) rfl
theorem gm_126 : (Cond.fieldLink R_En 11 "SureFunctions$Ending" "functions" "LSureFunctions$Signatures;" : Cond) ∈ gw := gw_of (List.mem_append_left _ (List.mem_of_getElem? (i := 171) (by decide +kernel))) rfl
theorem gm_127 : (Cond.fieldLink R_En 15 "SureFunctions$Ending" "terms" "LSureFunctions$Terms;" : Cond) ∈ gw := gw_of (List.mem_append_left _ (List.mem_of_getElem? (i := 172) (by decide +kernel))) rfl
theorem gm_128 : (Cond.fieldLink R_En 19 "SureFunctions$Ending" "clauses" "LSureFunctions$Clauses;" : Cond) ∈ gw := gw_of (List.mem_append_left _ (List.mem_of_getElem? (i := 173) (by decide +kernel))) rfl
theorem gm_129 : (Cond.fieldLink R_En 23 "SureFunctions$Ending" "calls" "[I" : Cond) ∈ gw := gw_of (List.mem_append_left _ (List.mem_of_getElem? (i := 174) (by decide +kernel))) rfl
theorem gm_130 : (Cond.fieldLink R_En 37 "SureFunctions$Ending" "manyCalls" "I" : Cond) ∈ gw := gw_of (List.mem_append_left _ (List.mem_of_getElem? (i := 175) (by decide +kernel))) rfl
theorem gm_131 : (Cond.fieldLink R_En 27 "SureFunctions$Ending" "graph" "[I" : Cond) ∈ gw := gw_of (List.mem_append_left _ (List.mem_of_getElem? (i := 176) (by decide +kernel))) rfl
theorem gm_132 : (Cond.fieldLink R_En 79 "SureFunctions$Ending" "manyGraphs" "I" : Cond) ∈ gw := gw_of (List.mem_append_left _ (List.mem_of_getElem? (i := 177) (by decide +kernel))) rfl
theorem gm_133 : (Cond.fieldLink R_En 82 "SureFunctions$Ending" "tooMany" "Z" : Cond) ∈ gw := gw_of (List.mem_append_left _ (List.mem_of_getElem? (i := 178) (by decide +kernel))) rfl
theorem gm_134 : (Cond.fieldLink R_En 30 "SureFunctions$Ending" "table" "[I" : Cond) ∈ gw := gw_of (List.mem_append_left _ (List.mem_of_getElem? (i := 179) (by decide +kernel))) rfl
theorem gm_135 : (Cond.laysFinal R_En "SureFunctions$Ending" "functions" "LSureFunctions$Signatures;" : Cond) ∈ gw := gw_of (List.mem_append_left _ (List.mem_of_getElem? (i := 180) (by decide +kernel))) rfl
theorem gm_136 : (Cond.laysFinal R_En "SureFunctions$Ending" "terms" "LSureFunctions$Terms;" : Cond) ∈ gw := gw_of (List.mem_append_left _ (List.mem_of_getElem? (i := 182) (by decide +kernel))) rfl
theorem gm_137 : (Cond.laysFinal R_En "SureFunctions$Ending" "clauses" "LSureFunctions$Clauses;" : Cond) ∈ gw := gw_of (List.mem_append_left _ (List.mem_of_getElem? (i := 184) (by decide +kernel))) rfl
theorem gm_138 : (Cond.laysFinal R_En "SureFunctions$Ending" "calls" "[I" : Cond) ∈ gw := gw_of (List.mem_append_left _ (List.mem_of_getElem? (i := 186) (by decide +kernel))) rfl
theorem gm_139 : (Cond.lays R_En "SureFunctions$Ending" "manyCalls" "I" : Cond) ∈ gw := gw_of (List.mem_append_left _ (List.mem_of_getElem? (i := 188) (by decide +kernel))) rfl
theorem gm_140 : (Cond.laysFinal R_En "SureFunctions$Ending" "graph" "[I" : Cond) ∈ gw := gw_of (List.mem_append_left _ (List.mem_of_getElem? (i := 190) (by decide +kernel))) rfl
theorem gm_141 : (Cond.lays R_En "SureFunctions$Ending" "manyGraphs" "I" : Cond) ∈ gw := gw_of (List.mem_append_left _ (List.mem_of_getElem? (i := 192) (by decide +kernel))) rfl
theorem gm_142 : (Cond.lays R_En "SureFunctions$Ending" "tooMany" "Z" : Cond) ∈ gw := gw_of (List.mem_append_left _ (List.mem_of_getElem? (i := 194) (by decide +kernel))) rfl
theorem gm_143 : (Cond.laysFinal R_En "SureFunctions$Ending" "table" "[I" : Cond) ∈ gw := gw_of (List.mem_append_left _ (List.mem_of_getElem? (i := 196) (by decide +kernel))) rfl
theorem gm_144 : (Cond.classLink R_Fu 62 R_Ma : Cond) ∈ gw := gw_of (List.mem_append_left _ (List.mem_of_getElem? (i := 199) (by decide +kernel))) rfl
theorem gm_145 : (Cond.instantiable R_Ma 15 : Cond) ∈ gw := gw_of (List.mem_append_left _ (List.mem_of_getElem? (i := 200) (by decide +kernel))) rfl
theorem gm_146 : (Cond.methodLink R_Fu 64 y_Ma_init : Cond) ∈ gw := gw_of (List.mem_append_left _ (List.mem_of_getElem? (i := 201) (by decide +kernel))) rfl
theorem gm_147 : (Cond.instanceMethod y_Ma_init : Cond) ∈ gw := gw_of (List.mem_append_left _ (List.mem_of_getElem? (i := 202) (by decide +kernel))) rfl
theorem gm_148 : (Cond.code y_Ma_init b_Ma_init 5 none : Cond) ∈ gw := gw_of (List.mem_append_left _ (List.mem_of_getElem? (i := 203) (by decide +kernel))) rfl
theorem gm_149 : (Cond.methodLink R_Ma 5 objectInit : Cond) ∈ gw := gw_of (List.mem_append_left _ (List.mem_of_getElem? (i := 204) (by decide +kernel))) rfl
theorem gm_150 : (Cond.classLink R_Ma 23 R_Va : Cond) ∈ gw := gw_of (List.mem_append_left _ (List.mem_of_getElem? (i := 205) (by decide +kernel))) rfl
theorem gm_151 : (Cond.instantiable R_Va 6 : Cond) ∈ gw := gw_of (List.mem_append_left _ (List.mem_of_getElem? (i := 206) (by decide +kernel))) rfl
theorem gm_152 : (Cond.methodLink R_Ma 25 y_Va_init : Cond) ∈ gw := gw_of (List.mem_append_left _ (List.mem_of_getElem? (i := 207) (by decide +kernel))) rfl
theorem gm_153 : (Cond.instanceMethod y_Va_init : Cond) ∈ gw := gw_of (List.mem_append_left _ (List.mem_of_getElem? (i := 208) (by decide +kernel))) rfl
theorem gm_154 : (Cond.code y_Va_init b_Va_init 3 none : Cond) ∈ gw := gw_of (List.mem_append_left _ (List.mem_of_getElem? (i := 209) (by decide +kernel))) rfl
theorem gm_155 : (Cond.methodLink R_Va 3 objectInit : Cond) ∈ gw := gw_of (List.mem_append_left _ (List.mem_of_getElem? (i := 210) (by decide +kernel))) rfl
theorem gm_156 : (Cond.fieldLink R_Va 9 "SureFunctions$Values" "constructors" "LSureFunctions$Signatures;" : Cond) ∈ gw := gw_of (List.mem_append_left _ (List.mem_of_getElem? (i := 211) (by decide +kernel))) rfl
theorem gm_157 : (Cond.fieldLink R_Va 15 "SureFunctions$Values" "terms" "LSureFunctions$Terms;" : Cond) ∈ gw := gw_of (List.mem_append_left _ (List.mem_of_getElem? (i := 212) (by decide +kernel))) rfl
theorem gm_158 : (Cond.fieldLink R_Va 19 "SureFunctions$Values" "maker" "[I" : Cond) ∈ gw := gw_of (List.mem_append_left _ (List.mem_of_getElem? (i := 213) (by decide +kernel))) rfl
theorem gm_159 : (Cond.fieldLink R_Va 23 "SureFunctions$Values" "part" "[I" : Cond) ∈ gw := gw_of (List.mem_append_left _ (List.mem_of_getElem? (i := 214) (by decide +kernel))) rfl
theorem gm_160 : (Cond.fieldLink R_Va 26 "SureFunctions$Values" "size" "[I" : Cond) ∈ gw := gw_of (List.mem_append_left _ (List.mem_of_getElem? (i := 215) (by decide +kernel))) rfl
theorem gm_161 : (Cond.fieldLink R_Va 29 "SureFunctions$Values" "many" "I" : Cond) ∈ gw := gw_of (List.mem_append_left _ (List.mem_of_getElem? (i := 216) (by decide +kernel))) rfl
theorem gm_162 : (Cond.laysFinal R_Va "SureFunctions$Values" "constructors" "LSureFunctions$Signatures;" : Cond) ∈ gw := gw_of (List.mem_append_left _ (List.mem_of_getElem? (i := 217) (by decide +kernel))) rfl
theorem gm_163 : (Cond.laysFinal R_Va "SureFunctions$Values" "terms" "LSureFunctions$Terms;" : Cond) ∈ gw := gw_of (List.mem_append_left _ (List.mem_of_getElem? (i := 219) (by decide +kernel))) rfl
theorem gm_164 : (Cond.laysFinal R_Va "SureFunctions$Values" "maker" "[I" : Cond) ∈ gw := gw_of (List.mem_append_left _ (List.mem_of_getElem? (i := 221) (by decide +kernel))) rfl
theorem gm_165 : (Cond.laysFinal R_Va "SureFunctions$Values" "part" "[I" : Cond) ∈ gw := gw_of (List.mem_append_left _ (List.mem_of_getElem? (i := 223) (by decide +kernel))) rfl
theorem gm_166 : (Cond.laysFinal R_Va "SureFunctions$Values" "size" "[I" : Cond) ∈ gw := gw_of (List.mem_append_left _ (List.mem_of_getElem? (i := 225) (by decide +kernel))) rfl
theorem gm_167 : (Cond.lays R_Va "SureFunctions$Values" "many" "I" : Cond) ∈ gw := gw_of (List.mem_append_left _ (List.mem_of_getElem? (i := 227) (by decide +kernel))) rfl
theorem gm_168 : (Cond.fieldLink R_Ma 11 "SureFunctions$Machine" "functions" "LSureFunctions$Signatures;" : Cond) ∈ gw := gw_of (List.mem_append_left _ (List.mem_of_getElem? (i := 230) (by decide +kernel))) rfl
theorem gm_169 : (Cond.fieldLink R_Ma 15 "SureFunctions$Machine" "terms" "LSureFunctions$Terms;" : Cond) ∈ gw := gw_of (List.mem_append_left _ (List.mem_of_getElem? (i := 231) (by decide +kernel))) rfl
theorem gm_170 : (Cond.fieldLink R_Ma 19 "SureFunctions$Machine" "clauses" "LSureFunctions$Clauses;" : Cond) ∈ gw := gw_of (List.mem_append_left _ (List.mem_of_getElem? (i := 232) (by decide +kernel))) rfl
theorem gm_171 : (Cond.fieldLink R_Ma 28 "SureFunctions$Machine" "values" "LSureFunctions$Values;" : Cond) ∈ gw := gw_of (List.mem_append_left _ (List.mem_of_getElem? (i := 233) (by decide +kernel))) rfl
theorem gm_172 : (Cond.fieldLink R_Ma 32 "SureFunctions$Machine" "frameTerm" "[I" : Cond) ∈ gw := gw_of (List.mem_append_left _ (List.mem_of_getElem? (i := 234) (by decide +kernel))) rfl
theorem gm_173 : (Cond.fieldLink R_Ma 36 "SureFunctions$Machine" "frameRoom" "[I" : Cond) ∈ gw := gw_of (List.mem_append_left _ (List.mem_of_getElem? (i := 235) (by decide +kernel))) rfl
theorem gm_174 : (Cond.fieldLink R_Ma 39 "SureFunctions$Machine" "frameDone" "[I" : Cond) ∈ gw := gw_of (List.mem_append_left _ (List.mem_of_getElem? (i := 236) (by decide +kernel))) rfl
theorem gm_175 : (Cond.fieldLink R_Ma 61 "SureFunctions$Machine" "frames" "I" : Cond) ∈ gw := gw_of (List.mem_append_left _ (List.mem_of_getElem? (i := 237) (by decide +kernel))) rfl
theorem gm_176 : (Cond.fieldLink R_Ma 42 "SureFunctions$Machine" "held" "[I" : Cond) ∈ gw := gw_of (List.mem_append_left _ (List.mem_of_getElem? (i := 238) (by decide +kernel))) rfl
theorem gm_177 : (Cond.fieldLink R_Ma 64 "SureFunctions$Machine" "manyHeld" "I" : Cond) ∈ gw := gw_of (List.mem_append_left _ (List.mem_of_getElem? (i := 239) (by decide +kernel))) rfl
theorem gm_178 : (Cond.fieldLink R_Ma 45 "SureFunctions$Machine" "bound" "[I" : Cond) ∈ gw := gw_of (List.mem_append_right _ (List.mem_append_left _ (List.mem_of_getElem? (i := 0) (by decide +kernel)))) rfl
theorem gm_179 : (Cond.fieldLink R_Ma 51 "SureFunctions$Machine" "steps" "I" : Cond) ∈ gw := gw_of (List.mem_append_right _ (List.mem_append_left _ (List.mem_of_getElem? (i := 1) (by decide +kernel)))) rfl
theorem gm_180 : (Cond.fieldLink R_Ma 67 "SureFunctions$Machine" "ended" "Z" : Cond) ∈ gw := gw_of (List.mem_append_right _ (List.mem_append_left _ (List.mem_of_getElem? (i := 2) (by decide +kernel)))) rfl
theorem gm_181 : (Cond.fieldLink R_Ma 48 "SureFunctions$Machine" "answer" "[I" : Cond) ∈ gw := gw_of (List.mem_append_right _ (List.mem_append_left _ (List.mem_of_getElem? (i := 3) (by decide +kernel)))) rfl
theorem gm_182 : (Cond.fieldLink R_Ma 55 "SureFunctions$Machine" "answerSize" "I" : Cond) ∈ gw := gw_of (List.mem_append_right _ (List.mem_append_left _ (List.mem_of_getElem? (i := 4) (by decide +kernel)))) rfl
theorem gm_183 : (Cond.laysFinal R_Ma "SureFunctions$Machine" "functions" "LSureFunctions$Signatures;" : Cond) ∈ gw := gw_of (List.mem_append_right _ (List.mem_append_left _ (List.mem_of_getElem? (i := 5) (by decide +kernel)))) rfl
theorem gm_184 : (Cond.laysFinal R_Ma "SureFunctions$Machine" "terms" "LSureFunctions$Terms;" : Cond) ∈ gw := gw_of (List.mem_append_right _ (List.mem_append_left _ (List.mem_of_getElem? (i := 7) (by decide +kernel)))) rfl
theorem gm_185 : (Cond.laysFinal R_Ma "SureFunctions$Machine" "clauses" "LSureFunctions$Clauses;" : Cond) ∈ gw := gw_of (List.mem_append_right _ (List.mem_append_left _ (List.mem_of_getElem? (i := 9) (by decide +kernel)))) rfl
theorem gm_186 : (Cond.laysFinal R_Ma "SureFunctions$Machine" "values" "LSureFunctions$Values;" : Cond) ∈ gw := gw_of (List.mem_append_right _ (List.mem_append_left _ (List.mem_of_getElem? (i := 11) (by decide +kernel)))) rfl
theorem gm_187 : (Cond.laysFinal R_Ma "SureFunctions$Machine" "frameTerm" "[I" : Cond) ∈ gw := gw_of (List.mem_append_right _ (List.mem_append_left _ (List.mem_of_getElem? (i := 13) (by decide +kernel)))) rfl
theorem gm_188 : (Cond.laysFinal R_Ma "SureFunctions$Machine" "frameRoom" "[I" : Cond) ∈ gw := gw_of (List.mem_append_right _ (List.mem_append_left _ (List.mem_of_getElem? (i := 15) (by decide +kernel)))) rfl
theorem gm_189 : (Cond.laysFinal R_Ma "SureFunctions$Machine" "frameDone" "[I" : Cond) ∈ gw := gw_of (List.mem_append_right _ (List.mem_append_left _ (List.mem_of_getElem? (i := 17) (by decide +kernel)))) rfl
theorem gm_190 : (Cond.lays R_Ma "SureFunctions$Machine" "frames" "I" : Cond) ∈ gw := gw_of (List.mem_append_right _ (List.mem_append_left _ (List.mem_of_getElem? (i := 19) (by decide +kernel)))) rfl
theorem gm_191 : (Cond.laysFinal R_Ma "SureFunctions$Machine" "held" "[I" : Cond) ∈ gw := gw_of (List.mem_append_right _ (List.mem_append_left _ (List.mem_of_getElem? (i := 21) (by decide +kernel)))) rfl
theorem gm_192 : (Cond.lays R_Ma "SureFunctions$Machine" "manyHeld" "I" : Cond) ∈ gw := gw_of (List.mem_append_right _ (List.mem_append_left _ (List.mem_of_getElem? (i := 23) (by decide +kernel)))) rfl
theorem gm_193 : (Cond.laysFinal R_Ma "SureFunctions$Machine" "bound" "[I" : Cond) ∈ gw := gw_of (List.mem_append_right _ (List.mem_append_left _ (List.mem_of_getElem? (i := 25) (by decide +kernel)))) rfl
theorem gm_194 : (Cond.lays R_Ma "SureFunctions$Machine" "steps" "I" : Cond) ∈ gw := gw_of (List.mem_append_right _ (List.mem_append_left _ (List.mem_of_getElem? (i := 27) (by decide +kernel)))) rfl
theorem gm_195 : (Cond.lays R_Ma "SureFunctions$Machine" "ended" "Z" : Cond) ∈ gw := gw_of (List.mem_append_right _ (List.mem_append_left _ (List.mem_of_getElem? (i := 29) (by decide +kernel)))) rfl
theorem gm_196 : (Cond.laysFinal R_Ma "SureFunctions$Machine" "answer" "[I" : Cond) ∈ gw := gw_of (List.mem_append_right _ (List.mem_append_left _ (List.mem_of_getElem? (i := 31) (by decide +kernel)))) rfl
theorem gm_197 : (Cond.lays R_Ma "SureFunctions$Machine" "answerSize" "I" : Cond) ∈ gw := gw_of (List.mem_append_right _ (List.mem_append_left _ (List.mem_of_getElem? (i := 33) (by decide +kernel)))) rfl
theorem gm_198 : (Cond.fieldLink R_Fu 14 "SureFunctions" "constructors" "LSureFunctions$Signatures;" : Cond) ∈ gw := gw_of (List.mem_append_right _ (List.mem_append_left _ (List.mem_of_getElem? (i := 36) (by decide +kernel)))) rfl
theorem gm_199 : (Cond.fieldLink R_Fu 18 "SureFunctions" "functions" "LSureFunctions$Signatures;" : Cond) ∈ gw := gw_of (List.mem_append_right _ (List.mem_append_left _ (List.mem_of_getElem? (i := 37) (by decide +kernel)))) rfl
theorem gm_200 : (Cond.fieldLink R_Fu 24 "SureFunctions" "terms" "LSureFunctions$Terms;" : Cond) ∈ gw := gw_of (List.mem_append_right _ (List.mem_append_left _ (List.mem_of_getElem? (i := 38) (by decide +kernel)))) rfl
theorem gm_201 : (Cond.fieldLink R_Fu 33 "SureFunctions" "clauses" "LSureFunctions$Clauses;" : Cond) ∈ gw := gw_of (List.mem_append_right _ (List.mem_append_left _ (List.mem_of_getElem? (i := 39) (by decide +kernel)))) rfl
theorem gm_202 : (Cond.fieldLink R_Fu 42 "SureFunctions" "typing" "LSureFunctions$Typing;" : Cond) ∈ gw := gw_of (List.mem_append_right _ (List.mem_append_left _ (List.mem_of_getElem? (i := 40) (by decide +kernel)))) rfl
theorem gm_203 : (Cond.fieldLink R_Fu 49 "SureFunctions" "coverage" "LSureFunctions$Coverage;" : Cond) ∈ gw := gw_of (List.mem_append_right _ (List.mem_append_left _ (List.mem_of_getElem? (i := 41) (by decide +kernel)))) rfl
theorem gm_204 : (Cond.fieldLink R_Fu 58 "SureFunctions" "ending" "LSureFunctions$Ending;" : Cond) ∈ gw := gw_of (List.mem_append_right _ (List.mem_append_left _ (List.mem_of_getElem? (i := 42) (by decide +kernel)))) rfl
theorem gm_205 : (Cond.fieldLink R_Fu 65 "SureFunctions" "machine" "LSureFunctions$Machine;" : Cond) ∈ gw := gw_of (List.mem_append_right _ (List.mem_append_left _ (List.mem_of_getElem? (i := 43) (by decide +kernel)))) rfl
theorem gm_206 : (Cond.fieldLink R_Fu 69 "SureFunctions" "verdict" "I" : Cond) ∈ gw := gw_of (List.mem_append_right _ (List.mem_append_left _ (List.mem_of_getElem? (i := 44) (by decide +kernel)))) rfl
theorem gm_207 : (Cond.fieldLink R_Fu 146 "SureFunctions" "graphsOfLatestCheck" "I" : Cond) ∈ gw := gw_of (List.mem_append_right _ (List.mem_append_left _ (List.mem_of_getElem? (i := 45) (by decide +kernel)))) rfl
theorem gm_208 : (Cond.laysFinal R_Fu "SureFunctions" "constructors" "LSureFunctions$Signatures;" : Cond) ∈ gw := gw_of (List.mem_append_right _ (List.mem_append_left _ (List.mem_of_getElem? (i := 46) (by decide +kernel)))) rfl
theorem gm_209 : (Cond.laysFinal R_Fu "SureFunctions" "functions" "LSureFunctions$Signatures;" : Cond) ∈ gw := gw_of (List.mem_append_right _ (List.mem_append_left _ (List.mem_of_getElem? (i := 48) (by decide +kernel)))) rfl
theorem gm_210 : (Cond.laysFinal R_Fu "SureFunctions" "terms" "LSureFunctions$Terms;" : Cond) ∈ gw := gw_of (List.mem_append_right _ (List.mem_append_left _ (List.mem_of_getElem? (i := 50) (by decide +kernel)))) rfl
theorem gm_211 : (Cond.laysFinal R_Fu "SureFunctions" "clauses" "LSureFunctions$Clauses;" : Cond) ∈ gw := gw_of (List.mem_append_right _ (List.mem_append_left _ (List.mem_of_getElem? (i := 52) (by decide +kernel)))) rfl
theorem gm_212 : (Cond.laysFinal R_Fu "SureFunctions" "typing" "LSureFunctions$Typing;" : Cond) ∈ gw := gw_of (List.mem_append_right _ (List.mem_append_left _ (List.mem_of_getElem? (i := 54) (by decide +kernel)))) rfl
theorem gm_213 : (Cond.laysFinal R_Fu "SureFunctions" "coverage" "LSureFunctions$Coverage;" : Cond) ∈ gw := gw_of (List.mem_append_right _ (List.mem_append_left _ (List.mem_of_getElem? (i := 56) (by decide +kernel)))) rfl
theorem gm_214 : (Cond.laysFinal R_Fu "SureFunctions" "ending" "LSureFunctions$Ending;" : Cond) ∈ gw := gw_of (List.mem_append_right _ (List.mem_append_left _ (List.mem_of_getElem? (i := 58) (by decide +kernel)))) rfl
theorem gm_215 : (Cond.laysFinal R_Fu "SureFunctions" "machine" "LSureFunctions$Machine;" : Cond) ∈ gw := gw_of (List.mem_append_right _ (List.mem_append_left _ (List.mem_of_getElem? (i := 60) (by decide +kernel)))) rfl
theorem gm_216 : (Cond.lays R_Fu "SureFunctions" "verdict" "I" : Cond) ∈ gw := gw_of (List.mem_append_right _ (List.mem_append_left _ (List.mem_of_getElem? (i := 62) (by decide +kernel)))) rfl
theorem gm_217 : (Cond.lays R_Fu "SureFunctions" "graphsOfLatestCheck" "I" : Cond) ∈ gw := gw_of (List.mem_append_right _ (List.mem_append_left _ (List.mem_of_getElem? (i := 64) (by decide +kernel)))) rfl
theorem gm_218 : (Cond.methodLink R_La 76 y_Fu_check : Cond) ∈ gw := gw_of (List.mem_append_right _ (List.mem_append_left _ (List.mem_of_getElem? (i := 67) (by decide +kernel)))) rfl
theorem gm_219 : (Cond.instanceMethod y_Fu_check : Cond) ∈ gw := gw_of (List.mem_append_right _ (List.mem_append_left _ (List.mem_of_getElem? (i := 68) (by decide +kernel)))) rfl
theorem gm_220 : (Cond.selects R_Fu y_Fu_check y_Fu_check : Cond) ∈ gw := gw_of (List.mem_append_right _ (List.mem_append_left _ (List.mem_of_getElem? (i := 69) (by decide +kernel)))) rfl
theorem gm_221 : (Cond.code y_Fu_check b_Fu_check 1 (some .int) : Cond) ∈ gw := gw_of (List.mem_append_right _ (List.mem_append_left _ (List.mem_of_getElem? (i := 70) (by decide +kernel)))) rfl
theorem gm_222 : (Cond.methodLink R_Fu 142 y_Fu_findWhatIsWrong : Cond) ∈ gw := gw_of (List.mem_append_right _ (List.mem_append_left _ (List.mem_of_getElem? (i := 71) (by decide +kernel)))) rfl
theorem gm_223 : (Cond.instanceMethod y_Fu_findWhatIsWrong : Cond) ∈ gw := gw_of (List.mem_append_right _ (List.mem_append_left _ (List.mem_of_getElem? (i := 73) (by decide +kernel)))) rfl
theorem gm_224 : (Cond.code y_Fu_findWhatIsWrong b_Fu_findWhatIsWrong 1 (some .int) : Cond) ∈ gw := gw_of (List.mem_append_right _ (List.mem_append_left _ (List.mem_of_getElem? (i := 74) (by decide +kernel)))) rfl
theorem gm_225 : (Cond.methodLink R_Fu 210 y_Ty_allInhabited : Cond) ∈ gw := gw_of (List.mem_append_right _ (List.mem_append_left _ (List.mem_of_getElem? (i := 75) (by decide +kernel)))) rfl
theorem gm_226 : (Cond.instanceMethod y_Ty_allInhabited : Cond) ∈ gw := gw_of (List.mem_append_right _ (List.mem_append_left _ (List.mem_of_getElem? (i := 76) (by decide +kernel)))) rfl
theorem gm_227 : (Cond.selects R_Ty y_Ty_allInhabited y_Ty_allInhabited : Cond) ∈ gw := gw_of (List.mem_append_right _ (List.mem_append_left _ (List.mem_of_getElem? (i := 77) (by decide +kernel)))) rfl
theorem gm_228 : (Cond.code y_Ty_allInhabited b_Ty_allInhabited 2 (some .boolean) : Cond) ∈ gw := gw_of (List.mem_append_right _ (List.mem_append_left _ (List.mem_of_getElem? (i := 78) (by decide +kernel)))) rfl
theorem gm_229 : (Cond.methodLink R_Ty 30 y_Sg_typesUsed : Cond) ∈ gw := gw_of (List.mem_append_right _ (List.mem_append_left _ (List.mem_of_getElem? (i := 79) (by decide +kernel)))) rfl
theorem gm_230 : (Cond.instanceMethod y_Sg_typesUsed : Cond) ∈ gw := gw_of (List.mem_append_right _ (List.mem_append_left _ (List.mem_of_getElem? (i := 80) (by decide +kernel)))) rfl
theorem gm_231 : (Cond.selects R_Sg y_Sg_typesUsed y_Sg_typesUsed : Cond) ∈ gw := gw_of (List.mem_append_right _ (List.mem_append_left _ (List.mem_of_getElem? (i := 81) (by decide +kernel)))) rfl
theorem gm_232 : (Cond.code y_Sg_typesUsed b_Sg_typesUsed 3 (some .int) : Cond) ∈ gw := gw_of (List.mem_append_right _ (List.mem_append_left _ (List.mem_of_getElem? (i := 82) (by decide +kernel)))) rfl
theorem gm_233 : (Cond.methodLink R_Sg 36 y_Sg_typesTaken : Cond) ∈ gw := gw_of (List.mem_append_right _ (List.mem_append_left _ (List.mem_of_getElem? (i := 83) (by decide +kernel)))) rfl
theorem gm_234 : (Cond.instanceMethod y_Sg_typesTaken : Cond) ∈ gw := gw_of (List.mem_append_right _ (List.mem_append_left _ (List.mem_of_getElem? (i := 84) (by decide +kernel)))) rfl
theorem gm_235 : (Cond.selects R_Sg y_Sg_typesTaken y_Sg_typesTaken : Cond) ∈ gw := gw_of (List.mem_append_right _ (List.mem_append_left _ (List.mem_of_getElem? (i := 85) (by decide +kernel)))) rfl
theorem gm_236 : (Cond.code y_Sg_typesTaken b_Sg_typesTaken 4 (some .int) : Cond) ∈ gw := gw_of (List.mem_append_right _ (List.mem_append_left _ (List.mem_of_getElem? (i := 86) (by decide +kernel)))) rfl
theorem gm_237 : (Cond.methodLink R_Ty 36 y_Ty_typesWithValues : Cond) ∈ gw := gw_of (List.mem_append_right _ (List.mem_append_left _ (List.mem_of_getElem? (i := 87) (by decide +kernel)))) rfl
theorem gm_238 : (Cond.instanceMethod y_Ty_typesWithValues : Cond) ∈ gw := gw_of (List.mem_append_right _ (List.mem_append_left _ (List.mem_of_getElem? (i := 89) (by decide +kernel)))) rfl
theorem gm_239 : (Cond.code y_Ty_typesWithValues b_Ty_typesWithValues 4 (some .int) : Cond) ∈ gw := gw_of (List.mem_append_right _ (List.mem_append_left _ (List.mem_of_getElem? (i := 90) (by decide +kernel)))) rfl
theorem gm_240 : (Cond.methodLink R_Ty 39 y_Sg_howMany : Cond) ∈ gw := gw_of (List.mem_append_right _ (List.mem_append_left _ (List.mem_of_getElem? (i := 91) (by decide +kernel)))) rfl
theorem gm_241 : (Cond.instanceMethod y_Sg_howMany : Cond) ∈ gw := gw_of (List.mem_append_right _ (List.mem_append_left _ (List.mem_of_getElem? (i := 92) (by decide +kernel)))) rfl
theorem gm_242 : (Cond.selects R_Sg y_Sg_howMany y_Sg_howMany : Cond) ∈ gw := gw_of (List.mem_append_right _ (List.mem_append_left _ (List.mem_of_getElem? (i := 93) (by decide +kernel)))) rfl
theorem gm_243 : (Cond.code y_Sg_howMany b_Sg_howMany 1 (some .int) : Cond) ∈ gw := gw_of (List.mem_append_right _ (List.mem_append_left _ (List.mem_of_getElem? (i := 94) (by decide +kernel)))) rfl
theorem gm_244 : (Cond.methodLink R_Ty 42 y_Sg_typesTaken : Cond) ∈ gw := gw_of (List.mem_append_right _ (List.mem_append_left _ (List.mem_of_getElem? (i := 95) (by decide +kernel)))) rfl
theorem gm_245 : (Cond.methodLink R_Ty 46 y_Sg_type : Cond) ∈ gw := gw_of (List.mem_append_right _ (List.mem_append_left _ (List.mem_of_getElem? (i := 96) (by decide +kernel)))) rfl
theorem gm_246 : (Cond.instanceMethod y_Sg_type : Cond) ∈ gw := gw_of (List.mem_append_right _ (List.mem_append_left _ (List.mem_of_getElem? (i := 97) (by decide +kernel)))) rfl
theorem gm_247 : (Cond.selects R_Sg y_Sg_type y_Sg_type : Cond) ∈ gw := gw_of (List.mem_append_right _ (List.mem_append_left _ (List.mem_of_getElem? (i := 98) (by decide +kernel)))) rfl
theorem gm_248 : (Cond.code y_Sg_type b_Sg_type 2 (some .int) : Cond) ∈ gw := gw_of (List.mem_append_right _ (List.mem_append_left _ (List.mem_of_getElem? (i := 99) (by decide +kernel)))) rfl
theorem gm_249 : (Cond.methodLink R_Fu 213 y_Ty_allTyped : Cond) ∈ gw := gw_of (List.mem_append_right _ (List.mem_append_left _ (List.mem_of_getElem? (i := 100) (by decide +kernel)))) rfl
theorem gm_250 : (Cond.instanceMethod y_Ty_allTyped : Cond) ∈ gw := gw_of (List.mem_append_right _ (List.mem_append_left _ (List.mem_of_getElem? (i := 101) (by decide +kernel)))) rfl
theorem gm_251 : (Cond.selects R_Ty y_Ty_allTyped y_Ty_allTyped : Cond) ∈ gw := gw_of (List.mem_append_right _ (List.mem_append_left _ (List.mem_of_getElem? (i := 102) (by decide +kernel)))) rfl
theorem gm_252 : (Cond.code y_Ty_allTyped b_Ty_allTyped 2 (some .boolean) : Cond) ∈ gw := gw_of (List.mem_append_right _ (List.mem_append_left _ (List.mem_of_getElem? (i := 103) (by decide +kernel)))) rfl
theorem gm_253 : (Cond.methodLink R_Ty 49 y_Cl_howMany : Cond) ∈ gw := gw_of (List.mem_append_right _ (List.mem_append_left _ (List.mem_of_getElem? (i := 104) (by decide +kernel)))) rfl
theorem gm_254 : (Cond.instanceMethod y_Cl_howMany : Cond) ∈ gw := gw_of (List.mem_append_right _ (List.mem_append_left _ (List.mem_of_getElem? (i := 105) (by decide +kernel)))) rfl
theorem gm_255 : (Cond.selects R_Cl y_Cl_howMany y_Cl_howMany : Cond) ∈ gw := gw_of (List.mem_append_right _ (List.mem_append_left _ (List.mem_of_getElem? (i := 106) (by decide +kernel)))) rfl
theorem gm_256 : (Cond.code y_Cl_howMany b_Cl_howMany 1 (some .int) : Cond) ∈ gw := gw_of (List.mem_append_right _ (List.mem_append_left _ (List.mem_of_getElem? (i := 107) (by decide +kernel)))) rfl
theorem gm_257 : (Cond.methodLink R_Ty 52 y_Ty_isTyped : Cond) ∈ gw := gw_of (List.mem_append_right _ (List.mem_append_left _ (List.mem_of_getElem? (i := 108) (by decide +kernel)))) rfl
theorem gm_258 : (Cond.instanceMethod y_Ty_isTyped : Cond) ∈ gw := gw_of (List.mem_append_right _ (List.mem_append_left _ (List.mem_of_getElem? (i := 110) (by decide +kernel)))) rfl
theorem gm_259 : (Cond.code y_Ty_isTyped b_Ty_isTyped 4 (some .boolean) : Cond) ∈ gw := gw_of (List.mem_append_right _ (List.mem_append_left _ (List.mem_of_getElem? (i := 111) (by decide +kernel)))) rfl
theorem gm_260 : (Cond.methodLink R_Ty 56 y_Cl_owner : Cond) ∈ gw := gw_of (List.mem_append_right _ (List.mem_append_left _ (List.mem_of_getElem? (i := 112) (by decide +kernel)))) rfl
theorem gm_261 : (Cond.instanceMethod y_Cl_owner : Cond) ∈ gw := gw_of (List.mem_append_right _ (List.mem_append_left _ (List.mem_of_getElem? (i := 113) (by decide +kernel)))) rfl
theorem gm_262 : (Cond.selects R_Cl y_Cl_owner y_Cl_owner : Cond) ∈ gw := gw_of (List.mem_append_right _ (List.mem_append_left _ (List.mem_of_getElem? (i := 114) (by decide +kernel)))) rfl
theorem gm_263 : (Cond.code y_Cl_owner b_Cl_owner 2 (some .int) : Cond) ∈ gw := gw_of (List.mem_append_right _ (List.mem_append_left _ (List.mem_of_getElem? (i := 115) (by decide +kernel)))) rfl
theorem gm_264 : (Cond.methodLink R_Ty 59 y_Sg_width : Cond) ∈ gw := gw_of (List.mem_append_right _ (List.mem_append_left _ (List.mem_of_getElem? (i := 116) (by decide +kernel)))) rfl
theorem gm_265 : (Cond.instanceMethod y_Sg_width : Cond) ∈ gw := gw_of (List.mem_append_right _ (List.mem_append_left _ (List.mem_of_getElem? (i := 117) (by decide +kernel)))) rfl
theorem gm_266 : (Cond.selects R_Sg y_Sg_width y_Sg_width : Cond) ∈ gw := gw_of (List.mem_append_right _ (List.mem_append_left _ (List.mem_of_getElem? (i := 118) (by decide +kernel)))) rfl
theorem gm_267 : (Cond.code y_Sg_width b_Sg_width 2 (some .int) : Cond) ∈ gw := gw_of (List.mem_append_right _ (List.mem_append_left _ (List.mem_of_getElem? (i := 119) (by decide +kernel)))) rfl
theorem gm_268 : (Cond.methodLink R_Ty 62 y_Cl_pattern : Cond) ∈ gw := gw_of (List.mem_append_right _ (List.mem_append_left _ (List.mem_of_getElem? (i := 120) (by decide +kernel)))) rfl
theorem gm_269 : (Cond.instanceMethod y_Cl_pattern : Cond) ∈ gw := gw_of (List.mem_append_right _ (List.mem_append_left _ (List.mem_of_getElem? (i := 121) (by decide +kernel)))) rfl
theorem gm_270 : (Cond.selects R_Cl y_Cl_pattern y_Cl_pattern : Cond) ∈ gw := gw_of (List.mem_append_right _ (List.mem_append_left _ (List.mem_of_getElem? (i := 122) (by decide +kernel)))) rfl
theorem gm_271 : (Cond.code y_Cl_pattern b_Cl_pattern 3 (some .int) : Cond) ∈ gw := gw_of (List.mem_append_right _ (List.mem_append_left _ (List.mem_of_getElem? (i := 123) (by decide +kernel)))) rfl
theorem gm_272 : (Cond.methodLink R_Ty 66 y_Sg_placeType : Cond) ∈ gw := gw_of (List.mem_append_right _ (List.mem_append_left _ (List.mem_of_getElem? (i := 124) (by decide +kernel)))) rfl
theorem gm_273 : (Cond.instanceMethod y_Sg_placeType : Cond) ∈ gw := gw_of (List.mem_append_right _ (List.mem_append_left _ (List.mem_of_getElem? (i := 125) (by decide +kernel)))) rfl
theorem gm_274 : (Cond.selects R_Sg y_Sg_placeType y_Sg_placeType : Cond) ∈ gw := gw_of (List.mem_append_right _ (List.mem_append_left _ (List.mem_of_getElem? (i := 126) (by decide +kernel)))) rfl
theorem gm_275 : (Cond.code y_Sg_placeType b_Sg_placeType 3 (some .int) : Cond) ∈ gw := gw_of (List.mem_append_right _ (List.mem_append_left _ (List.mem_of_getElem? (i := 127) (by decide +kernel)))) rfl
theorem gm_276 : (Cond.methodLink R_Ty 69 y_Ty_isPatternOfType : Cond) ∈ gw := gw_of (List.mem_append_right _ (List.mem_append_left _ (List.mem_of_getElem? (i := 128) (by decide +kernel)))) rfl
theorem gm_277 : (Cond.instanceMethod y_Ty_isPatternOfType : Cond) ∈ gw := gw_of (List.mem_append_right _ (List.mem_append_left _ (List.mem_of_getElem? (i := 130) (by decide +kernel)))) rfl
theorem gm_278 : (Cond.code y_Ty_isPatternOfType b_Ty_isPatternOfType 5 (some .boolean) : Cond) ∈ gw := gw_of (List.mem_append_right _ (List.mem_append_left _ (List.mem_of_getElem? (i := 131) (by decide +kernel)))) rfl
theorem gm_279 : (Cond.methodLink R_Ty 79 y_Te_isVariable : Cond) ∈ gw := gw_of (List.mem_append_right _ (List.mem_append_left _ (List.mem_of_getElem? (i := 132) (by decide +kernel)))) rfl
theorem gm_280 : (Cond.instanceMethod y_Te_isVariable : Cond) ∈ gw := gw_of (List.mem_append_right _ (List.mem_append_left _ (List.mem_of_getElem? (i := 133) (by decide +kernel)))) rfl
theorem gm_281 : (Cond.selects R_Te y_Te_isVariable y_Te_isVariable : Cond) ∈ gw := gw_of (List.mem_append_right _ (List.mem_append_left _ (List.mem_of_getElem? (i := 134) (by decide +kernel)))) rfl
theorem gm_282 : (Cond.code y_Te_isVariable b_Te_isVariable 2 (some .boolean) : Cond) ∈ gw := gw_of (List.mem_append_right _ (List.mem_append_left _ (List.mem_of_getElem? (i := 135) (by decide +kernel)))) rfl
theorem gm_283 : (Cond.methodLink R_Ty 84 y_Te_head : Cond) ∈ gw := gw_of (List.mem_append_right _ (List.mem_append_left _ (List.mem_of_getElem? (i := 136) (by decide +kernel)))) rfl
theorem gm_284 : (Cond.instanceMethod y_Te_head : Cond) ∈ gw := gw_of (List.mem_append_right _ (List.mem_append_left _ (List.mem_of_getElem? (i := 137) (by decide +kernel)))) rfl
theorem gm_285 : (Cond.selects R_Te y_Te_head y_Te_head : Cond) ∈ gw := gw_of (List.mem_append_right _ (List.mem_append_left _ (List.mem_of_getElem? (i := 138) (by decide +kernel)))) rfl
theorem gm_286 : (Cond.code y_Te_head b_Te_head 2 (some .int) : Cond) ∈ gw := gw_of (List.mem_append_right _ (List.mem_append_left _ (List.mem_of_getElem? (i := 139) (by decide +kernel)))) rfl
theorem gm_287 : (Cond.methodLink R_Ty 87 y_Te_width : Cond) ∈ gw := gw_of (List.mem_append_right _ (List.mem_append_left _ (List.mem_of_getElem? (i := 140) (by decide +kernel)))) rfl
theorem gm_288 : (Cond.instanceMethod y_Te_width : Cond) ∈ gw := gw_of (List.mem_append_right _ (List.mem_append_left _ (List.mem_of_getElem? (i := 141) (by decide +kernel)))) rfl
theorem gm_289 : (Cond.selects R_Te y_Te_width y_Te_width : Cond) ∈ gw := gw_of (List.mem_append_right _ (List.mem_append_left _ (List.mem_of_getElem? (i := 142) (by decide +kernel)))) rfl
theorem gm_290 : (Cond.code y_Te_width b_Te_width 2 (some .int) : Cond) ∈ gw := gw_of (List.mem_append_right _ (List.mem_append_left _ (List.mem_of_getElem? (i := 143) (by decide +kernel)))) rfl
theorem gm_291 : (Cond.methodLink R_Ty 88 y_Te_part : Cond) ∈ gw := gw_of (List.mem_append_right _ (List.mem_append_left _ (List.mem_of_getElem? (i := 144) (by decide +kernel)))) rfl
theorem gm_292 : (Cond.instanceMethod y_Te_part : Cond) ∈ gw := gw_of (List.mem_append_right _ (List.mem_append_left _ (List.mem_of_getElem? (i := 145) (by decide +kernel)))) rfl
theorem gm_293 : (Cond.selects R_Te y_Te_part y_Te_part : Cond) ∈ gw := gw_of (List.mem_append_right _ (List.mem_append_left _ (List.mem_of_getElem? (i := 146) (by decide +kernel)))) rfl
theorem gm_294 : (Cond.code y_Te_part b_Te_part 3 (some .int) : Cond) ∈ gw := gw_of (List.mem_append_right _ (List.mem_append_left _ (List.mem_of_getElem? (i := 147) (by decide +kernel)))) rfl
theorem gm_295 : (Cond.methodLink R_Ty 73 y_Cl_body : Cond) ∈ gw := gw_of (List.mem_append_right _ (List.mem_append_left _ (List.mem_of_getElem? (i := 148) (by decide +kernel)))) rfl
theorem gm_296 : (Cond.instanceMethod y_Cl_body : Cond) ∈ gw := gw_of (List.mem_append_right _ (List.mem_append_left _ (List.mem_of_getElem? (i := 149) (by decide +kernel)))) rfl
theorem gm_297 : (Cond.selects R_Cl y_Cl_body y_Cl_body : Cond) ∈ gw := gw_of (List.mem_append_right _ (List.mem_append_left _ (List.mem_of_getElem? (i := 150) (by decide +kernel)))) rfl
theorem gm_298 : (Cond.code y_Cl_body b_Cl_body 2 (some .int) : Cond) ∈ gw := gw_of (List.mem_append_right _ (List.mem_append_left _ (List.mem_of_getElem? (i := 151) (by decide +kernel)))) rfl
theorem gm_299 : (Cond.methodLink R_Ty 76 y_Ty_isOfType : Cond) ∈ gw := gw_of (List.mem_append_right _ (List.mem_append_left _ (List.mem_of_getElem? (i := 152) (by decide +kernel)))) rfl
theorem gm_300 : (Cond.instanceMethod y_Ty_isOfType : Cond) ∈ gw := gw_of (List.mem_append_right _ (List.mem_append_left _ (List.mem_of_getElem? (i := 154) (by decide +kernel)))) rfl
theorem gm_301 : (Cond.code y_Ty_isOfType b_Ty_isOfType 6 (some .boolean) : Cond) ∈ gw := gw_of (List.mem_append_right _ (List.mem_append_left _ (List.mem_of_getElem? (i := 155) (by decide +kernel)))) rfl
theorem gm_302 : (Cond.methodLink R_Ty 94 y_Te_isMade : Cond) ∈ gw := gw_of (List.mem_append_right _ (List.mem_append_left _ (List.mem_of_getElem? (i := 156) (by decide +kernel)))) rfl
theorem gm_303 : (Cond.instanceMethod y_Te_isMade : Cond) ∈ gw := gw_of (List.mem_append_right _ (List.mem_append_left _ (List.mem_of_getElem? (i := 157) (by decide +kernel)))) rfl
theorem gm_304 : (Cond.selects R_Te y_Te_isMade y_Te_isMade : Cond) ∈ gw := gw_of (List.mem_append_right _ (List.mem_append_left _ (List.mem_of_getElem? (i := 158) (by decide +kernel)))) rfl
theorem gm_305 : (Cond.code y_Te_isMade b_Te_isMade 2 (some .boolean) : Cond) ∈ gw := gw_of (List.mem_append_right _ (List.mem_append_left _ (List.mem_of_getElem? (i := 159) (by decide +kernel)))) rfl
theorem gm_306 : (Cond.methodLink R_Fu 216 y_Co_allCovered : Cond) ∈ gw := gw_of (List.mem_append_right _ (List.mem_append_left _ (List.mem_of_getElem? (i := 160) (by decide +kernel)))) rfl
theorem gm_307 : (Cond.instanceMethod y_Co_allCovered : Cond) ∈ gw := gw_of (List.mem_append_right _ (List.mem_append_left _ (List.mem_of_getElem? (i := 161) (by decide +kernel)))) rfl
theorem gm_308 : (Cond.selects R_Co y_Co_allCovered y_Co_allCovered : Cond) ∈ gw := gw_of (List.mem_append_right _ (List.mem_append_left _ (List.mem_of_getElem? (i := 162) (by decide +kernel)))) rfl
theorem gm_309 : (Cond.code y_Co_allCovered b_Co_allCovered 3 (some .boolean) : Cond) ∈ gw := gw_of (List.mem_append_right _ (List.mem_append_left _ (List.mem_of_getElem? (i := 163) (by decide +kernel)))) rfl
theorem gm_310 : (Cond.methodLink R_Co 33 y_Sg_howMany : Cond) ∈ gw := gw_of (List.mem_append_right _ (List.mem_append_left _ (List.mem_of_getElem? (i := 164) (by decide +kernel)))) rfl
theorem gm_311 : (Cond.methodLink R_Co 39 y_Co_readPatterns : Cond) ∈ gw := gw_of (List.mem_append_right _ (List.mem_append_left _ (List.mem_of_getElem? (i := 165) (by decide +kernel)))) rfl
theorem gm_312 : (Cond.instanceMethod y_Co_readPatterns : Cond) ∈ gw := gw_of (List.mem_append_right _ (List.mem_append_left _ (List.mem_of_getElem? (i := 167) (by decide +kernel)))) rfl
theorem gm_313 : (Cond.code y_Co_readPatterns b_Co_readPatterns 5 none : Cond) ∈ gw := gw_of (List.mem_append_right _ (List.mem_append_left _ (List.mem_of_getElem? (i := 168) (by decide +kernel)))) rfl
theorem gm_314 : (Cond.methodLink R_Co 47 y_Cl_howManyOf : Cond) ∈ gw := gw_of (List.mem_append_right _ (List.mem_append_left _ (List.mem_of_getElem? (i := 169) (by decide +kernel)))) rfl
theorem gm_315 : (Cond.instanceMethod y_Cl_howManyOf : Cond) ∈ gw := gw_of (List.mem_append_right _ (List.mem_append_left _ (List.mem_of_getElem? (i := 170) (by decide +kernel)))) rfl
theorem gm_316 : (Cond.selects R_Cl y_Cl_howManyOf y_Cl_howManyOf : Cond) ∈ gw := gw_of (List.mem_append_right _ (List.mem_append_left _ (List.mem_of_getElem? (i := 171) (by decide +kernel)))) rfl
theorem gm_317 : (Cond.code y_Cl_howManyOf b_Cl_howManyOf 2 (some .int) : Cond) ∈ gw := gw_of (List.mem_append_right _ (List.mem_append_left _ (List.mem_of_getElem? (i := 172) (by decide +kernel)))) rfl
theorem gm_318 : (Cond.methodLink R_Co 53 y_Cl_ofFunction : Cond) ∈ gw := gw_of (List.mem_append_right _ (List.mem_append_left _ (List.mem_of_getElem? (i := 173) (by decide +kernel)))) rfl
theorem gm_319 : (Cond.instanceMethod y_Cl_ofFunction : Cond) ∈ gw := gw_of (List.mem_append_right _ (List.mem_append_left _ (List.mem_of_getElem? (i := 174) (by decide +kernel)))) rfl
theorem gm_320 : (Cond.selects R_Cl y_Cl_ofFunction y_Cl_ofFunction : Cond) ∈ gw := gw_of (List.mem_append_right _ (List.mem_append_left _ (List.mem_of_getElem? (i := 175) (by decide +kernel)))) rfl
theorem gm_321 : (Cond.code y_Cl_ofFunction b_Cl_ofFunction 3 (some .int) : Cond) ∈ gw := gw_of (List.mem_append_right _ (List.mem_append_left _ (List.mem_of_getElem? (i := 176) (by decide +kernel)))) rfl
theorem gm_322 : (Cond.methodLink R_Co 57 y_Sg_width : Cond) ∈ gw := gw_of (List.mem_append_right _ (List.mem_append_left _ (List.mem_of_getElem? (i := 177) (by decide +kernel)))) rfl
theorem gm_323 : (Cond.methodLink R_Co 60 y_Cl_pattern : Cond) ∈ gw := gw_of (List.mem_append_right _ (List.mem_append_left _ (List.mem_of_getElem? (i := 178) (by decide +kernel)))) rfl
theorem gm_324 : (Cond.methodLink R_Co 63 y_Co_readPattern : Cond) ∈ gw := gw_of (List.mem_append_right _ (List.mem_append_left _ (List.mem_of_getElem? (i := 179) (by decide +kernel)))) rfl
theorem gm_325 : (Cond.instanceMethod y_Co_readPattern : Cond) ∈ gw := gw_of (List.mem_append_right _ (List.mem_append_left _ (List.mem_of_getElem? (i := 181) (by decide +kernel)))) rfl
theorem gm_326 : (Cond.code y_Co_readPattern b_Co_readPattern 5 none : Cond) ∈ gw := gw_of (List.mem_append_right _ (List.mem_append_left _ (List.mem_of_getElem? (i := 182) (by decide +kernel)))) rfl
theorem gm_327 : (Cond.methodLink R_Co 67 y_Te_isMade : Cond) ∈ gw := gw_of (List.mem_append_right _ (List.mem_append_left _ (List.mem_of_getElem? (i := 183) (by decide +kernel)))) rfl
theorem gm_328 : (Cond.methodLink R_Co 73 y_Te_head : Cond) ∈ gw := gw_of (List.mem_append_right _ (List.mem_append_left _ (List.mem_of_getElem? (i := 184) (by decide +kernel)))) rfl
theorem gm_329 : (Cond.methodLink R_Co 76 y_Te_width : Cond) ∈ gw := gw_of (List.mem_append_right _ (List.mem_append_left _ (List.mem_of_getElem? (i := 185) (by decide +kernel)))) rfl
theorem gm_330 : (Cond.methodLink R_Co 77 y_Te_part : Cond) ∈ gw := gw_of (List.mem_append_right _ (List.mem_append_left _ (List.mem_of_getElem? (i := 186) (by decide +kernel)))) rfl
theorem gm_331 : (Cond.methodLink R_Co 43 y_Co_isCovered : Cond) ∈ gw := gw_of (List.mem_append_right _ (List.mem_append_left _ (List.mem_of_getElem? (i := 187) (by decide +kernel)))) rfl
theorem gm_332 : (Cond.instanceMethod y_Co_isCovered : Cond) ∈ gw := gw_of (List.mem_append_right _ (List.mem_append_left _ (List.mem_of_getElem? (i := 189) (by decide +kernel)))) rfl
theorem gm_333 : (Cond.code y_Co_isCovered b_Co_isCovered 7 (some .boolean) : Cond) ∈ gw := gw_of (List.mem_append_right _ (List.mem_append_left _ (List.mem_of_getElem? (i := 190) (by decide +kernel)))) rfl
theorem gm_334 : (Cond.methodLink R_Co 80 y_Co_compare : Cond) ∈ gw := gw_of (List.mem_append_right _ (List.mem_append_left _ (List.mem_of_getElem? (i := 191) (by decide +kernel)))) rfl
theorem gm_335 : (Cond.instanceMethod y_Co_compare : Cond) ∈ gw := gw_of (List.mem_append_right _ (List.mem_append_left _ (List.mem_of_getElem? (i := 193) (by decide +kernel)))) rfl
theorem gm_336 : (Cond.code y_Co_compare b_Co_compare 5 (some .int) : Cond) ∈ gw := gw_of (List.mem_append_right _ (List.mem_append_left _ (List.mem_of_getElem? (i := 194) (by decide +kernel)))) rfl
theorem gm_337 : (Cond.methodLink R_Co 83 y_Jm_min : Cond) ∈ gw := gw_of (List.mem_append_right _ (List.mem_append_left _ (List.mem_of_getElem? (i := 195) (by decide +kernel)))) rfl
theorem gm_338 : (Cond.static y_Jm_min : Cond) ∈ gw := gw_of (List.mem_append_right _ (List.mem_append_left _ (List.mem_of_getElem? (i := 196) (by decide +kernel)))) rfl
theorem gm_339 : (Cond.code y_Jm_min b_Jm_min 2 (some .int) : Cond) ∈ gw := gw_of (List.mem_append_right _ (List.mem_append_left _ (List.mem_of_getElem? (i := 197) (by decide +kernel)))) rfl
theorem gm_340 : (Cond.methodLink R_Co 88 y_Co_isCoveredWhenSplit : Cond) ∈ gw := gw_of (List.mem_append_right _ (List.mem_append_left _ (List.mem_of_getElem? (i := 198) (by decide +kernel)))) rfl
theorem gm_341 : (Cond.instanceMethod y_Co_isCoveredWhenSplit : Cond) ∈ gw := gw_of (List.mem_append_right _ (List.mem_append_left _ (List.mem_of_getElem? (i := 200) (by decide +kernel)))) rfl
theorem gm_342 : (Cond.code y_Co_isCoveredWhenSplit b_Co_isCoveredWhenSplit 8 (some .boolean) : Cond) ∈ gw := gw_of (List.mem_append_right _ (List.mem_append_left _ (List.mem_of_getElem? (i := 201) (by decide +kernel)))) rfl
theorem gm_343 : (Cond.methodLink R_Co 92 y_Co_slotType : Cond) ∈ gw := gw_of (List.mem_append_right _ (List.mem_append_left _ (List.mem_of_getElem? (i := 202) (by decide +kernel)))) rfl
theorem gm_344 : (Cond.instanceMethod y_Co_slotType : Cond) ∈ gw := gw_of (List.mem_append_right _ (List.mem_append_left _ (List.mem_of_getElem? (i := 204) (by decide +kernel)))) rfl
theorem gm_345 : (Cond.code y_Co_slotType b_Co_slotType 6 (some .int) : Cond) ∈ gw := gw_of (List.mem_append_right _ (List.mem_append_left _ (List.mem_of_getElem? (i := 205) (by decide +kernel)))) rfl
theorem gm_346 : (Cond.methodLink R_Co 106 y_Sg_placeType : Cond) ∈ gw := gw_of (List.mem_append_right _ (List.mem_append_left _ (List.mem_of_getElem? (i := 206) (by decide +kernel)))) rfl
theorem gm_347 : (Cond.methodLink R_Co 95 y_Co_constructorThatNoneNames : Cond) ∈ gw := gw_of (List.mem_append_right _ (List.mem_append_left _ (List.mem_of_getElem? (i := 207) (by decide +kernel)))) rfl
theorem gm_348 : (Cond.instanceMethod y_Co_constructorThatNoneNames : Cond) ∈ gw := gw_of (List.mem_append_right _ (List.mem_append_left _ (List.mem_of_getElem? (i := 209) (by decide +kernel)))) rfl
theorem gm_349 : (Cond.code y_Co_constructorThatNoneNames b_Co_constructorThatNoneNames 5 (some .int) : Cond) ∈ gw := gw_of (List.mem_append_right _ (List.mem_append_left _ (List.mem_of_getElem? (i := 210) (by decide +kernel)))) rfl
theorem gm_350 : (Cond.methodLink R_Co 99 y_Sg_type : Cond) ∈ gw := gw_of (List.mem_append_right _ (List.mem_append_left _ (List.mem_of_getElem? (i := 211) (by decide +kernel)))) rfl
theorem gm_351 : (Cond.methodLink R_Co 102 y_Co_isNamed : Cond) ∈ gw := gw_of (List.mem_append_right _ (List.mem_append_left _ (List.mem_of_getElem? (i := 212) (by decide +kernel)))) rfl
theorem gm_352 : (Cond.instanceMethod y_Co_isNamed : Cond) ∈ gw := gw_of (List.mem_append_right _ (List.mem_append_left _ (List.mem_of_getElem? (i := 214) (by decide +kernel)))) rfl
theorem gm_353 : (Cond.code y_Co_isNamed b_Co_isNamed 5 (some .boolean) : Cond) ∈ gw := gw_of (List.mem_append_right _ (List.mem_append_left _ (List.mem_of_getElem? (i := 215) (by decide +kernel)))) rfl
theorem gm_354 : (Cond.methodLink R_Fu 219 y_En_makeGraphs : Cond) ∈ gw := gw_of (List.mem_append_right _ (List.mem_append_left _ (List.mem_of_getElem? (i := 216) (by decide +kernel)))) rfl
theorem gm_355 : (Cond.instanceMethod y_En_makeGraphs : Cond) ∈ gw := gw_of (List.mem_append_right _ (List.mem_append_left _ (List.mem_of_getElem? (i := 217) (by decide +kernel)))) rfl
theorem gm_356 : (Cond.selects R_En y_En_makeGraphs y_En_makeGraphs : Cond) ∈ gw := gw_of (List.mem_append_right _ (List.mem_append_left _ (List.mem_of_getElem? (i := 218) (by decide +kernel)))) rfl
theorem gm_357 : (Cond.code y_En_makeGraphs b_En_makeGraphs 3 (some .int) : Cond) ∈ gw := gw_of (List.mem_append_right _ (List.mem_append_left _ (List.mem_of_getElem? (i := 219) (by decide +kernel)))) rfl
theorem gm_358 : (Cond.methodLink R_En 86 y_Cl_howMany : Cond) ∈ gw := gw_of (List.mem_append_right _ (List.mem_append_left _ (List.mem_of_getElem? (i := 220) (by decide +kernel)))) rfl
theorem gm_359 : (Cond.methodLink R_En 33 y_En_collectCalls : Cond) ∈ gw := gw_of (List.mem_append_right _ (List.mem_append_left _ (List.mem_of_getElem? (i := 221) (by decide +kernel)))) rfl
theorem gm_360 : (Cond.instanceMethod y_En_collectCalls : Cond) ∈ gw := gw_of (List.mem_append_right _ (List.mem_append_left _ (List.mem_of_getElem? (i := 223) (by decide +kernel)))) rfl
theorem gm_361 : (Cond.code y_En_collectCalls b_En_collectCalls 2 none : Cond) ∈ gw := gw_of (List.mem_append_right _ (List.mem_append_left _ (List.mem_of_getElem? (i := 224) (by decide +kernel)))) rfl
theorem gm_362 : (Cond.methodLink R_En 41 y_Cl_body : Cond) ∈ gw := gw_of (List.mem_append_right _ (List.mem_append_left _ (List.mem_of_getElem? (i := 225) (by decide +kernel)))) rfl
theorem gm_363 : (Cond.methodLink R_En 47 y_En_collectCallsIn : Cond) ∈ gw := gw_of (List.mem_append_right _ (List.mem_append_left _ (List.mem_of_getElem? (i := 226) (by decide +kernel)))) rfl
theorem gm_364 : (Cond.instanceMethod y_En_collectCallsIn : Cond) ∈ gw := gw_of (List.mem_append_right _ (List.mem_append_left _ (List.mem_of_getElem? (i := 228) (by decide +kernel)))) rfl
theorem gm_365 : (Cond.code y_En_collectCallsIn b_En_collectCallsIn 3 none : Cond) ∈ gw := gw_of (List.mem_append_right _ (List.mem_append_left _ (List.mem_of_getElem? (i := 229) (by decide +kernel)))) rfl
theorem gm_366 : (Cond.methodLink R_En 50 y_Te_isCalled : Cond) ∈ gw := gw_of (List.mem_append_right _ (List.mem_append_left _ (List.mem_of_getElem? (i := 230) (by decide +kernel)))) rfl
theorem gm_367 : (Cond.instanceMethod y_Te_isCalled : Cond) ∈ gw := gw_of (List.mem_append_right _ (List.mem_append_left _ (List.mem_of_getElem? (i := 231) (by decide +kernel)))) rfl
theorem gm_368 : (Cond.selects R_Te y_Te_isCalled y_Te_isCalled : Cond) ∈ gw := gw_of (List.mem_append_right _ (List.mem_append_left _ (List.mem_of_getElem? (i := 232) (by decide +kernel)))) rfl
theorem gm_369 : (Cond.code y_Te_isCalled b_Te_isCalled 2 (some .boolean) : Cond) ∈ gw := gw_of (List.mem_append_right _ (List.mem_append_left _ (List.mem_of_getElem? (i := 233) (by decide +kernel)))) rfl
theorem gm_370 : (Cond.methodLink R_En 56 y_Te_width : Cond) ∈ gw := gw_of (List.mem_append_right _ (List.mem_append_left _ (List.mem_of_getElem? (i := 234) (by decide +kernel)))) rfl
theorem gm_371 : (Cond.methodLink R_En 59 y_Te_part : Cond) ∈ gw := gw_of (List.mem_append_right _ (List.mem_append_left _ (List.mem_of_getElem? (i := 235) (by decide +kernel)))) rfl
theorem gm_372 : (Cond.methodLink R_En 90 y_En_graphOf : Cond) ∈ gw := gw_of (List.mem_append_right _ (List.mem_append_left _ (List.mem_of_getElem? (i := 236) (by decide +kernel)))) rfl
theorem gm_373 : (Cond.instanceMethod y_En_graphOf : Cond) ∈ gw := gw_of (List.mem_append_right _ (List.mem_append_left _ (List.mem_of_getElem? (i := 238) (by decide +kernel)))) rfl
theorem gm_374 : (Cond.code y_En_graphOf b_En_graphOf 10 (some .int) : Cond) ∈ gw := gw_of (List.mem_append_right _ (List.mem_append_left _ (List.mem_of_getElem? (i := 239) (by decide +kernel)))) rfl
theorem gm_375 : (Cond.methodLink R_En 108 y_Cl_owner : Cond) ∈ gw := gw_of (List.mem_append_right _ (List.mem_append_right _ (List.mem_append_left _ (List.mem_of_getElem? (i := 0) (by decide +kernel))))) rfl
theorem gm_376 : (Cond.methodLink R_En 111 y_Sg_width : Cond) ∈ gw := gw_of (List.mem_append_right _ (List.mem_append_right _ (List.mem_append_left _ (List.mem_of_getElem? (i := 1) (by decide +kernel))))) rfl
theorem gm_377 : (Cond.methodLink R_En 114 y_Cl_pattern : Cond) ∈ gw := gw_of (List.mem_append_right _ (List.mem_append_right _ (List.mem_append_left _ (List.mem_of_getElem? (i := 2) (by decide +kernel))))) rfl
theorem gm_378 : (Cond.methodLink R_En 117 y_En_arcBetween : Cond) ∈ gw := gw_of (List.mem_append_right _ (List.mem_append_right _ (List.mem_append_left _ (List.mem_of_getElem? (i := 3) (by decide +kernel))))) rfl
theorem gm_379 : (Cond.instanceMethod y_En_arcBetween : Cond) ∈ gw := gw_of (List.mem_append_right _ (List.mem_append_right _ (List.mem_append_left _ (List.mem_of_getElem? (i := 4) (by decide +kernel))))) rfl
theorem gm_380 : (Cond.selects R_En y_En_arcBetween y_En_arcBetween : Cond) ∈ gw := gw_of (List.mem_append_right _ (List.mem_append_right _ (List.mem_append_left _ (List.mem_of_getElem? (i := 5) (by decide +kernel))))) rfl
theorem gm_381 : (Cond.code y_En_arcBetween b_En_arcBetween 3 (some .int) : Cond) ∈ gw := gw_of (List.mem_append_right _ (List.mem_append_right _ (List.mem_append_left _ (List.mem_of_getElem? (i := 6) (by decide +kernel))))) rfl
theorem gm_382 : (Cond.methodLink R_En 63 y_En_isSame : Cond) ∈ gw := gw_of (List.mem_append_right _ (List.mem_append_right _ (List.mem_append_left _ (List.mem_of_getElem? (i := 7) (by decide +kernel))))) rfl
theorem gm_383 : (Cond.instanceMethod y_En_isSame : Cond) ∈ gw := gw_of (List.mem_append_right _ (List.mem_append_right _ (List.mem_append_left _ (List.mem_of_getElem? (i := 9) (by decide +kernel))))) rfl
theorem gm_384 : (Cond.code y_En_isSame b_En_isSame 4 (some .boolean) : Cond) ∈ gw := gw_of (List.mem_append_right _ (List.mem_append_right _ (List.mem_append_left _ (List.mem_of_getElem? (i := 10) (by decide +kernel))))) rfl
theorem gm_385 : (Cond.methodLink R_En 70 y_Te_isVariable : Cond) ∈ gw := gw_of (List.mem_append_right _ (List.mem_append_right _ (List.mem_append_left _ (List.mem_of_getElem? (i := 11) (by decide +kernel))))) rfl
theorem gm_386 : (Cond.methodLink R_En 73 y_Te_head : Cond) ∈ gw := gw_of (List.mem_append_right _ (List.mem_append_right _ (List.mem_append_left _ (List.mem_of_getElem? (i := 12) (by decide +kernel))))) rfl
theorem gm_387 : (Cond.methodLink R_En 76 y_Te_isMade : Cond) ∈ gw := gw_of (List.mem_append_right _ (List.mem_append_right _ (List.mem_append_left _ (List.mem_of_getElem? (i := 13) (by decide +kernel))))) rfl
theorem gm_388 : (Cond.methodLink R_En 67 y_En_isInside : Cond) ∈ gw := gw_of (List.mem_append_right _ (List.mem_append_right _ (List.mem_append_left _ (List.mem_of_getElem? (i := 14) (by decide +kernel))))) rfl
theorem gm_389 : (Cond.instanceMethod y_En_isInside : Cond) ∈ gw := gw_of (List.mem_append_right _ (List.mem_append_right _ (List.mem_append_left _ (List.mem_of_getElem? (i := 16) (by decide +kernel))))) rfl
theorem gm_390 : (Cond.code y_En_isInside b_En_isInside 5 (some .boolean) : Cond) ∈ gw := gw_of (List.mem_append_right _ (List.mem_append_right _ (List.mem_append_left _ (List.mem_of_getElem? (i := 17) (by decide +kernel))))) rfl
theorem gm_391 : (Cond.methodLink R_En 120 y_En_code : Cond) ∈ gw := gw_of (List.mem_append_right _ (List.mem_append_right _ (List.mem_append_left _ (List.mem_of_getElem? (i := 18) (by decide +kernel))))) rfl
theorem gm_392 : (Cond.static y_En_code : Cond) ∈ gw := gw_of (List.mem_append_right _ (List.mem_append_right _ (List.mem_append_left _ (List.mem_of_getElem? (i := 19) (by decide +kernel))))) rfl
theorem gm_393 : (Cond.code y_En_code b_En_code 5 (some .int) : Cond) ∈ gw := gw_of (List.mem_append_right _ (List.mem_append_right _ (List.mem_append_left _ (List.mem_of_getElem? (i := 20) (by decide +kernel))))) rfl
theorem gm_394 : (Cond.methodLink R_En 93 y_En_addGraph : Cond) ∈ gw := gw_of (List.mem_append_right _ (List.mem_append_right _ (List.mem_append_left _ (List.mem_of_getElem? (i := 21) (by decide +kernel))))) rfl
theorem gm_395 : (Cond.instanceMethod y_En_addGraph : Cond) ∈ gw := gw_of (List.mem_append_right _ (List.mem_append_right _ (List.mem_append_left _ (List.mem_of_getElem? (i := 23) (by decide +kernel))))) rfl
theorem gm_396 : (Cond.code y_En_addGraph b_En_addGraph 4 none : Cond) ∈ gw := gw_of (List.mem_append_right _ (List.mem_append_right _ (List.mem_append_left _ (List.mem_of_getElem? (i := 24) (by decide +kernel))))) rfl
theorem gm_397 : (Cond.constant R_En (124 : Nat) (-1640531535 : Int32) : Cond) ∈ gw := gw_of (List.mem_append_right _ (List.mem_append_right _ (List.mem_append_left _ (List.mem_of_getElem? (i := 25) (by decide +kernel))))) rfl
theorem gm_398 : (Cond.methodLink R_En 96 y_En_addCompositions : Cond) ∈ gw := gw_of (List.mem_append_right _ (List.mem_append_right _ (List.mem_append_left _ (List.mem_of_getElem? (i := 26) (by decide +kernel))))) rfl
theorem gm_399 : (Cond.instanceMethod y_En_addCompositions : Cond) ∈ gw := gw_of (List.mem_append_right _ (List.mem_append_right _ (List.mem_append_left _ (List.mem_of_getElem? (i := 28) (by decide +kernel))))) rfl
theorem gm_400 : (Cond.code y_En_addCompositions b_En_addCompositions 4 none : Cond) ∈ gw := gw_of (List.mem_append_right _ (List.mem_append_right _ (List.mem_append_left _ (List.mem_of_getElem? (i := 29) (by decide +kernel))))) rfl
theorem gm_401 : (Cond.methodLink R_En 99 y_En_to : Cond) ∈ gw := gw_of (List.mem_append_right _ (List.mem_append_right _ (List.mem_append_left _ (List.mem_of_getElem? (i := 30) (by decide +kernel))))) rfl
theorem gm_402 : (Cond.static y_En_to : Cond) ∈ gw := gw_of (List.mem_append_right _ (List.mem_append_right _ (List.mem_append_left _ (List.mem_of_getElem? (i := 31) (by decide +kernel))))) rfl
theorem gm_403 : (Cond.code y_En_to b_En_to 1 (some .int) : Cond) ∈ gw := gw_of (List.mem_append_right _ (List.mem_append_right _ (List.mem_append_left _ (List.mem_of_getElem? (i := 32) (by decide +kernel))))) rfl
theorem gm_404 : (Cond.methodLink R_En 102 y_En_from : Cond) ∈ gw := gw_of (List.mem_append_right _ (List.mem_append_right _ (List.mem_append_left _ (List.mem_of_getElem? (i := 33) (by decide +kernel))))) rfl
theorem gm_405 : (Cond.static y_En_from : Cond) ∈ gw := gw_of (List.mem_append_right _ (List.mem_append_right _ (List.mem_append_left _ (List.mem_of_getElem? (i := 34) (by decide +kernel))))) rfl
theorem gm_406 : (Cond.code y_En_from b_En_from 1 (some .int) : Cond) ∈ gw := gw_of (List.mem_append_right _ (List.mem_append_right _ (List.mem_append_left _ (List.mem_of_getElem? (i := 35) (by decide +kernel))))) rfl
theorem gm_407 : (Cond.methodLink R_En 105 y_En_compose : Cond) ∈ gw := gw_of (List.mem_append_right _ (List.mem_append_right _ (List.mem_append_left _ (List.mem_of_getElem? (i := 36) (by decide +kernel))))) rfl
theorem gm_408 : (Cond.static y_En_compose : Cond) ∈ gw := gw_of (List.mem_append_right _ (List.mem_append_right _ (List.mem_append_left _ (List.mem_of_getElem? (i := 37) (by decide +kernel))))) rfl
theorem gm_409 : (Cond.code y_En_compose b_En_compose 9 (some .int) : Cond) ∈ gw := gw_of (List.mem_append_right _ (List.mem_append_right _ (List.mem_append_left _ (List.mem_of_getElem? (i := 38) (by decide +kernel))))) rfl
theorem gm_410 : (Cond.methodLink R_En 125 y_En_arcs : Cond) ∈ gw := gw_of (List.mem_append_right _ (List.mem_append_right _ (List.mem_append_left _ (List.mem_of_getElem? (i := 39) (by decide +kernel))))) rfl
theorem gm_411 : (Cond.static y_En_arcs : Cond) ∈ gw := gw_of (List.mem_append_right _ (List.mem_append_right _ (List.mem_append_left _ (List.mem_of_getElem? (i := 40) (by decide +kernel))))) rfl
theorem gm_412 : (Cond.code y_En_arcs b_En_arcs 1 (some .int) : Cond) ∈ gw := gw_of (List.mem_append_right _ (List.mem_append_right _ (List.mem_append_left _ (List.mem_of_getElem? (i := 41) (by decide +kernel))))) rfl
theorem gm_413 : (Cond.methodLink R_En 128 y_En_strict : Cond) ∈ gw := gw_of (List.mem_append_right _ (List.mem_append_right _ (List.mem_append_left _ (List.mem_of_getElem? (i := 42) (by decide +kernel))))) rfl
theorem gm_414 : (Cond.static y_En_strict : Cond) ∈ gw := gw_of (List.mem_append_right _ (List.mem_append_right _ (List.mem_append_left _ (List.mem_of_getElem? (i := 43) (by decide +kernel))))) rfl
theorem gm_415 : (Cond.code y_En_strict b_En_strict 1 (some .int) : Cond) ∈ gw := gw_of (List.mem_append_right _ (List.mem_append_right _ (List.mem_append_left _ (List.mem_of_getElem? (i := 44) (by decide +kernel))))) rfl
theorem gm_416 : (Cond.methodLink R_Fu 222 y_En_allEnd : Cond) ∈ gw := gw_of (List.mem_append_right _ (List.mem_append_right _ (List.mem_append_left _ (List.mem_of_getElem? (i := 45) (by decide +kernel))))) rfl
theorem gm_417 : (Cond.instanceMethod y_En_allEnd : Cond) ∈ gw := gw_of (List.mem_append_right _ (List.mem_append_right _ (List.mem_append_left _ (List.mem_of_getElem? (i := 46) (by decide +kernel))))) rfl
theorem gm_418 : (Cond.selects R_En y_En_allEnd y_En_allEnd : Cond) ∈ gw := gw_of (List.mem_append_right _ (List.mem_append_right _ (List.mem_append_left _ (List.mem_of_getElem? (i := 47) (by decide +kernel))))) rfl
theorem gm_419 : (Cond.code y_En_allEnd b_En_allEnd 3 (some .boolean) : Cond) ∈ gw := gw_of (List.mem_append_right _ (List.mem_append_right _ (List.mem_append_left _ (List.mem_of_getElem? (i := 48) (by decide +kernel))))) rfl
theorem gm_420 : (Cond.methodLink R_La 80 y_Fu_graphs : Cond) ∈ gw := gw_of (List.mem_append_right _ (List.mem_append_right _ (List.mem_append_left _ (List.mem_of_getElem? (i := 49) (by decide +kernel))))) rfl
theorem gm_421 : (Cond.instanceMethod y_Fu_graphs : Cond) ∈ gw := gw_of (List.mem_append_right _ (List.mem_append_right _ (List.mem_append_left _ (List.mem_of_getElem? (i := 50) (by decide +kernel))))) rfl
theorem gm_422 : (Cond.selects R_Fu y_Fu_graphs y_Fu_graphs : Cond) ∈ gw := gw_of (List.mem_append_right _ (List.mem_append_right _ (List.mem_append_left _ (List.mem_of_getElem? (i := 51) (by decide +kernel))))) rfl
theorem gm_423 : (Cond.code y_Fu_graphs b_Fu_graphs 1 (some .int) : Cond) ∈ gw := gw_of (List.mem_append_right _ (List.mem_append_right _ (List.mem_append_left _ (List.mem_of_getElem? (i := 52) (by decide +kernel))))) rfl
theorem gm_424 : (Cond.methodLink R_La 87 y_Fu_isValue : Cond) ∈ gw := gw_of (List.mem_append_right _ (List.mem_append_right _ (List.mem_append_left _ (List.mem_of_getElem? (i := 53) (by decide +kernel))))) rfl
theorem gm_425 : (Cond.instanceMethod y_Fu_isValue : Cond) ∈ gw := gw_of (List.mem_append_right _ (List.mem_append_right _ (List.mem_append_left _ (List.mem_of_getElem? (i := 54) (by decide +kernel))))) rfl
theorem gm_426 : (Cond.selects R_Fu y_Fu_isValue y_Fu_isValue : Cond) ∈ gw := gw_of (List.mem_append_right _ (List.mem_append_right _ (List.mem_append_left _ (List.mem_of_getElem? (i := 55) (by decide +kernel))))) rfl
theorem gm_427 : (Cond.code y_Fu_isValue b_Fu_isValue 3 (some .boolean) : Cond) ∈ gw := gw_of (List.mem_append_right _ (List.mem_append_right _ (List.mem_append_left _ (List.mem_of_getElem? (i := 56) (by decide +kernel))))) rfl
theorem gm_428 : (Cond.methodLink R_Fu 173 y_Fu_isType : Cond) ∈ gw := gw_of (List.mem_append_right _ (List.mem_append_right _ (List.mem_append_left _ (List.mem_of_getElem? (i := 57) (by decide +kernel))))) rfl
theorem gm_429 : (Cond.static y_Fu_isType : Cond) ∈ gw := gw_of (List.mem_append_right _ (List.mem_append_right _ (List.mem_append_left _ (List.mem_of_getElem? (i := 58) (by decide +kernel))))) rfl
theorem gm_430 : (Cond.code y_Fu_isType b_Fu_isType 1 (some .boolean) : Cond) ∈ gw := gw_of (List.mem_append_right _ (List.mem_append_right _ (List.mem_append_left _ (List.mem_of_getElem? (i := 59) (by decide +kernel))))) rfl
theorem gm_431 : (Cond.methodLink R_Fu 176 y_Te_has : Cond) ∈ gw := gw_of (List.mem_append_right _ (List.mem_append_right _ (List.mem_append_left _ (List.mem_of_getElem? (i := 60) (by decide +kernel))))) rfl
theorem gm_432 : (Cond.instanceMethod y_Te_has : Cond) ∈ gw := gw_of (List.mem_append_right _ (List.mem_append_right _ (List.mem_append_left _ (List.mem_of_getElem? (i := 61) (by decide +kernel))))) rfl
theorem gm_433 : (Cond.selects R_Te y_Te_has y_Te_has : Cond) ∈ gw := gw_of (List.mem_append_right _ (List.mem_append_right _ (List.mem_append_left _ (List.mem_of_getElem? (i := 62) (by decide +kernel))))) rfl
theorem gm_434 : (Cond.code y_Te_has b_Te_has 2 (some .boolean) : Cond) ∈ gw := gw_of (List.mem_append_right _ (List.mem_append_right _ (List.mem_append_left _ (List.mem_of_getElem? (i := 63) (by decide +kernel))))) rfl
theorem gm_435 : (Cond.methodLink R_Fu 177 y_Ty_isClosedOfType : Cond) ∈ gw := gw_of (List.mem_append_right _ (List.mem_append_right _ (List.mem_append_left _ (List.mem_of_getElem? (i := 64) (by decide +kernel))))) rfl
theorem gm_436 : (Cond.instanceMethod y_Ty_isClosedOfType : Cond) ∈ gw := gw_of (List.mem_append_right _ (List.mem_append_right _ (List.mem_append_left _ (List.mem_of_getElem? (i := 65) (by decide +kernel))))) rfl
theorem gm_437 : (Cond.selects R_Ty y_Ty_isClosedOfType y_Ty_isClosedOfType : Cond) ∈ gw := gw_of (List.mem_append_right _ (List.mem_append_right _ (List.mem_append_left _ (List.mem_of_getElem? (i := 66) (by decide +kernel))))) rfl
theorem gm_438 : (Cond.code y_Ty_isClosedOfType b_Ty_isClosedOfType 3 (some .boolean) : Cond) ∈ gw := gw_of (List.mem_append_right _ (List.mem_append_right _ (List.mem_append_left _ (List.mem_of_getElem? (i := 67) (by decide +kernel))))) rfl
theorem gm_439 : (Cond.methodLink R_Ty 91 y_Te_isClosed : Cond) ∈ gw := gw_of (List.mem_append_right _ (List.mem_append_right _ (List.mem_append_left _ (List.mem_of_getElem? (i := 68) (by decide +kernel))))) rfl
theorem gm_440 : (Cond.instanceMethod y_Te_isClosed : Cond) ∈ gw := gw_of (List.mem_append_right _ (List.mem_append_right _ (List.mem_append_left _ (List.mem_of_getElem? (i := 69) (by decide +kernel))))) rfl
theorem gm_441 : (Cond.selects R_Te y_Te_isClosed y_Te_isClosed : Cond) ∈ gw := gw_of (List.mem_append_right _ (List.mem_append_right _ (List.mem_append_left _ (List.mem_of_getElem? (i := 70) (by decide +kernel))))) rfl
theorem gm_442 : (Cond.code y_Te_isClosed b_Te_isClosed 2 (some .boolean) : Cond) ∈ gw := gw_of (List.mem_append_right _ (List.mem_append_right _ (List.mem_append_left _ (List.mem_of_getElem? (i := 71) (by decide +kernel))))) rfl
theorem gm_443 : (Cond.methodLink R_La 98 y_Fu_count : Cond) ∈ gw := gw_of (List.mem_append_right _ (List.mem_append_right _ (List.mem_append_left _ (List.mem_of_getElem? (i := 72) (by decide +kernel))))) rfl
theorem gm_444 : (Cond.instanceMethod y_Fu_count : Cond) ∈ gw := gw_of (List.mem_append_right _ (List.mem_append_right _ (List.mem_append_left _ (List.mem_of_getElem? (i := 73) (by decide +kernel))))) rfl
theorem gm_445 : (Cond.selects R_Fu y_Fu_count y_Fu_count : Cond) ∈ gw := gw_of (List.mem_append_right _ (List.mem_append_right _ (List.mem_append_left _ (List.mem_of_getElem? (i := 74) (by decide +kernel))))) rfl
theorem gm_446 : (Cond.code y_Fu_count b_Fu_count 2 (some .int) : Cond) ∈ gw := gw_of (List.mem_append_right _ (List.mem_append_right _ (List.mem_append_left _ (List.mem_of_getElem? (i := 75) (by decide +kernel))))) rfl
theorem gm_447 : (Cond.methodLink R_Fu 202 y_Ma_steps : Cond) ∈ gw := gw_of (List.mem_append_right _ (List.mem_append_right _ (List.mem_append_left _ (List.mem_of_getElem? (i := 76) (by decide +kernel))))) rfl
theorem gm_448 : (Cond.instanceMethod y_Ma_steps : Cond) ∈ gw := gw_of (List.mem_append_right _ (List.mem_append_right _ (List.mem_append_left _ (List.mem_of_getElem? (i := 77) (by decide +kernel))))) rfl
theorem gm_449 : (Cond.selects R_Ma y_Ma_steps y_Ma_steps : Cond) ∈ gw := gw_of (List.mem_append_right _ (List.mem_append_right _ (List.mem_append_left _ (List.mem_of_getElem? (i := 78) (by decide +kernel))))) rfl
theorem gm_450 : (Cond.code y_Ma_steps b_Ma_steps 1 (some .int) : Cond) ∈ gw := gw_of (List.mem_append_right _ (List.mem_append_right _ (List.mem_append_left _ (List.mem_of_getElem? (i := 79) (by decide +kernel))))) rfl
theorem gm_451 : (Cond.methodLink R_Fu 205 y_Sg_howMany : Cond) ∈ gw := gw_of (List.mem_append_right _ (List.mem_append_right _ (List.mem_append_left _ (List.mem_of_getElem? (i := 80) (by decide +kernel))))) rfl
theorem gm_452 : (Cond.methodLink R_Fu 208 y_Te_howMany : Cond) ∈ gw := gw_of (List.mem_append_right _ (List.mem_append_right _ (List.mem_append_left _ (List.mem_of_getElem? (i := 81) (by decide +kernel))))) rfl
theorem gm_453 : (Cond.instanceMethod y_Te_howMany : Cond) ∈ gw := gw_of (List.mem_append_right _ (List.mem_append_right _ (List.mem_append_left _ (List.mem_of_getElem? (i := 82) (by decide +kernel))))) rfl
theorem gm_454 : (Cond.selects R_Te y_Te_howMany y_Te_howMany : Cond) ∈ gw := gw_of (List.mem_append_right _ (List.mem_append_right _ (List.mem_append_left _ (List.mem_of_getElem? (i := 83) (by decide +kernel))))) rfl
theorem gm_455 : (Cond.code y_Te_howMany b_Te_howMany 1 (some .int) : Cond) ∈ gw := gw_of (List.mem_append_right _ (List.mem_append_right _ (List.mem_append_left _ (List.mem_of_getElem? (i := 84) (by decide +kernel))))) rfl
theorem gm_456 : (Cond.methodLink R_Fu 209 y_Cl_howMany : Cond) ∈ gw := gw_of (List.mem_append_right _ (List.mem_append_right _ (List.mem_append_left _ (List.mem_of_getElem? (i := 85) (by decide +kernel))))) rfl
theorem gm_457 : (Cond.methodLink R_La 49 y_La_constructor : Cond) ∈ gw := gw_of (List.mem_append_right _ (List.mem_append_right _ (List.mem_append_left _ (List.mem_of_getElem? (i := 86) (by decide +kernel))))) rfl
theorem gm_458 : (Cond.static y_La_constructor : Cond) ∈ gw := gw_of (List.mem_append_right _ (List.mem_append_right _ (List.mem_append_left _ (List.mem_of_getElem? (i := 87) (by decide +kernel))))) rfl
theorem gm_459 : (Cond.classLink R_La 13 "java/lang/IllegalArgumentException" : Cond) ∈ gw := gw_of (List.mem_append_right _ (List.mem_append_right _ (List.mem_append_left _ (List.mem_of_getElem? (i := 89) (by decide +kernel))))) rfl
theorem gm_460 : (Cond.classLink R_La 15 "java/lang/IllegalStateException" : Cond) ∈ gw := gw_of (List.mem_append_right _ (List.mem_append_right _ (List.mem_append_left _ (List.mem_of_getElem? (i := 90) (by decide +kernel))))) rfl
theorem gm_461 : (Cond.methodLink R_La 7 y_Fu_constructor : Cond) ∈ gw := gw_of (List.mem_append_right _ (List.mem_append_right _ (List.mem_append_left _ (List.mem_of_getElem? (i := 91) (by decide +kernel))))) rfl
theorem gm_462 : (Cond.instanceMethod y_Fu_constructor : Cond) ∈ gw := gw_of (List.mem_append_right _ (List.mem_append_right _ (List.mem_append_left _ (List.mem_of_getElem? (i := 92) (by decide +kernel))))) rfl
theorem gm_463 : (Cond.selects R_Fu y_Fu_constructor y_Fu_constructor : Cond) ∈ gw := gw_of (List.mem_append_right _ (List.mem_append_right _ (List.mem_append_left _ (List.mem_of_getElem? (i := 93) (by decide +kernel))))) rfl
theorem gm_464 : (Cond.code y_Fu_constructor b_Fu_constructor 5 (some .int) : Cond) ∈ gw := gw_of (List.mem_append_right _ (List.mem_append_right _ (List.mem_append_left _ (List.mem_of_getElem? (i := 94) (by decide +kernel))))) rfl
theorem gm_465 : (Cond.methodLink R_Fu 73 y_Fu_areTypes : Cond) ∈ gw := gw_of (List.mem_append_right _ (List.mem_append_right _ (List.mem_append_left _ (List.mem_of_getElem? (i := 95) (by decide +kernel))))) rfl
theorem gm_466 : (Cond.static y_Fu_areTypes : Cond) ∈ gw := gw_of (List.mem_append_right _ (List.mem_append_right _ (List.mem_append_left _ (List.mem_of_getElem? (i := 96) (by decide +kernel))))) rfl
theorem gm_467 : (Cond.code y_Fu_areTypes b_Fu_areTypes 5 (some .boolean) : Cond) ∈ gw := gw_of (List.mem_append_right _ (List.mem_append_right _ (List.mem_append_left _ (List.mem_of_getElem? (i := 97) (by decide +kernel))))) rfl
theorem gm_468 : (Cond.methodLink R_Fu 234 y_Fu_leadingPlaces : Cond) ∈ gw := gw_of (List.mem_append_right _ (List.mem_append_right _ (List.mem_append_left _ (List.mem_of_getElem? (i := 98) (by decide +kernel))))) rfl
theorem gm_469 : (Cond.static y_Fu_leadingPlaces : Cond) ∈ gw := gw_of (List.mem_append_right _ (List.mem_append_right _ (List.mem_append_left _ (List.mem_of_getElem? (i := 99) (by decide +kernel))))) rfl
theorem gm_470 : (Cond.code y_Fu_leadingPlaces b_Fu_leadingPlaces 3 (some .int) : Cond) ∈ gw := gw_of (List.mem_append_right _ (List.mem_append_right _ (List.mem_append_left _ (List.mem_of_getElem? (i := 100) (by decide +kernel))))) rfl
theorem gm_471 : (Cond.methodLink R_Fu 225 y_Fu_pick : Cond) ∈ gw := gw_of (List.mem_append_right _ (List.mem_append_right _ (List.mem_append_left _ (List.mem_of_getElem? (i := 101) (by decide +kernel))))) rfl
theorem gm_472 : (Cond.static y_Fu_pick : Cond) ∈ gw := gw_of (List.mem_append_right _ (List.mem_append_right _ (List.mem_append_left _ (List.mem_of_getElem? (i := 102) (by decide +kernel))))) rfl
theorem gm_473 : (Cond.code y_Fu_pick b_Fu_pick 4 (some .int) : Cond) ∈ gw := gw_of (List.mem_append_right _ (List.mem_append_right _ (List.mem_append_left _ (List.mem_of_getElem? (i := 103) (by decide +kernel))))) rfl
theorem gm_474 : (Cond.classLink R_Fu 77 "java/lang/IllegalArgumentException" : Cond) ∈ gw := gw_of (List.mem_append_right _ (List.mem_append_right _ (List.mem_append_left _ (List.mem_of_getElem? (i := 104) (by decide +kernel))))) rfl
theorem gm_475 : (Cond.methodLink R_Fu 84 y_Sg_isFull : Cond) ∈ gw := gw_of (List.mem_append_right _ (List.mem_append_right _ (List.mem_append_left _ (List.mem_of_getElem? (i := 172) (by decide +kernel))))) rfl
theorem gm_476 : (Cond.instanceMethod y_Sg_isFull : Cond) ∈ gw := gw_of (List.mem_append_right _ (List.mem_append_right _ (List.mem_append_left _ (List.mem_of_getElem? (i := 173) (by decide +kernel))))) rfl
theorem gm_477 : (Cond.selects R_Sg y_Sg_isFull y_Sg_isFull : Cond) ∈ gw := gw_of (List.mem_append_right _ (List.mem_append_right _ (List.mem_append_left _ (List.mem_of_getElem? (i := 174) (by decide +kernel))))) rfl
theorem gm_478 : (Cond.code y_Sg_isFull b_Sg_isFull 1 (some .boolean) : Cond) ∈ gw := gw_of (List.mem_append_right _ (List.mem_append_right _ (List.mem_append_left _ (List.mem_of_getElem? (i := 175) (by decide +kernel))))) rfl
theorem gm_479 : (Cond.classLink R_Fu 88 "java/lang/IllegalStateException" : Cond) ∈ gw := gw_of (List.mem_append_right _ (List.mem_append_right _ (List.mem_append_left _ (List.mem_of_getElem? (i := 176) (by decide +kernel))))) rfl
theorem gm_480 : (Cond.methodLink R_Fu 93 y_Sg_declare : Cond) ∈ gw := gw_of (List.mem_append_right _ (List.mem_append_right _ (List.mem_append_left _ (List.mem_of_getElem? (i := 192) (by decide +kernel))))) rfl
theorem gm_481 : (Cond.instanceMethod y_Sg_declare : Cond) ∈ gw := gw_of (List.mem_append_right _ (List.mem_append_right _ (List.mem_append_left _ (List.mem_of_getElem? (i := 193) (by decide +kernel))))) rfl
theorem gm_482 : (Cond.selects R_Sg y_Sg_declare y_Sg_declare : Cond) ∈ gw := gw_of (List.mem_append_right _ (List.mem_append_right _ (List.mem_append_left _ (List.mem_of_getElem? (i := 194) (by decide +kernel))))) rfl
theorem gm_483 : (Cond.code y_Sg_declare b_Sg_declare 6 (some .int) : Cond) ∈ gw := gw_of (List.mem_append_right _ (List.mem_append_right _ (List.mem_append_left _ (List.mem_of_getElem? (i := 195) (by decide +kernel))))) rfl
theorem gm_484 : (Cond.methodLink R_La 59 y_La_function : Cond) ∈ gw := gw_of (List.mem_append_right _ (List.mem_append_right _ (List.mem_append_left _ (List.mem_of_getElem? (i := 198) (by decide +kernel))))) rfl
theorem gm_485 : (Cond.static y_La_function : Cond) ∈ gw := gw_of (List.mem_append_right _ (List.mem_append_right _ (List.mem_append_left _ (List.mem_of_getElem? (i := 199) (by decide +kernel))))) rfl
theorem gm_486 : (Cond.methodLink R_La 17 y_Fu_function : Cond) ∈ gw := gw_of (List.mem_append_right _ (List.mem_append_right _ (List.mem_append_left _ (List.mem_of_getElem? (i := 201) (by decide +kernel))))) rfl
theorem gm_487 : (Cond.instanceMethod y_Fu_function : Cond) ∈ gw := gw_of (List.mem_append_right _ (List.mem_append_right _ (List.mem_append_left _ (List.mem_of_getElem? (i := 202) (by decide +kernel))))) rfl
theorem gm_488 : (Cond.selects R_Fu y_Fu_function y_Fu_function : Cond) ∈ gw := gw_of (List.mem_append_right _ (List.mem_append_right _ (List.mem_append_left _ (List.mem_of_getElem? (i := 203) (by decide +kernel))))) rfl
theorem gm_489 : (Cond.code y_Fu_function b_Fu_function 5 (some .int) : Cond) ∈ gw := gw_of (List.mem_append_right _ (List.mem_append_right _ (List.mem_append_left _ (List.mem_of_getElem? (i := 204) (by decide +kernel))))) rfl
theorem gm_490 : (Cond.methodLink R_La 62 y_La_variable : Cond) ∈ gw := gw_of (List.mem_append_right _ (List.mem_append_right _ (List.mem_append_left _ (List.mem_of_getElem? (i := 206) (by decide +kernel))))) rfl
theorem gm_491 : (Cond.static y_La_variable : Cond) ∈ gw := gw_of (List.mem_append_right _ (List.mem_append_right _ (List.mem_append_left _ (List.mem_of_getElem? (i := 207) (by decide +kernel))))) rfl
theorem gm_492 : (Cond.methodLink R_La 20 y_Fu_variable : Cond) ∈ gw := gw_of (List.mem_append_right _ (List.mem_append_right _ (List.mem_append_left _ (List.mem_of_getElem? (i := 209) (by decide +kernel))))) rfl
theorem gm_493 : (Cond.instanceMethod y_Fu_variable : Cond) ∈ gw := gw_of (List.mem_append_right _ (List.mem_append_right _ (List.mem_append_left _ (List.mem_of_getElem? (i := 210) (by decide +kernel))))) rfl
theorem gm_494 : (Cond.selects R_Fu y_Fu_variable y_Fu_variable : Cond) ∈ gw := gw_of (List.mem_append_right _ (List.mem_append_right _ (List.mem_append_left _ (List.mem_of_getElem? (i := 211) (by decide +kernel))))) rfl
theorem gm_495 : (Cond.code y_Fu_variable b_Fu_variable 2 (some .int) : Cond) ∈ gw := gw_of (List.mem_append_right _ (List.mem_append_right _ (List.mem_append_left _ (List.mem_of_getElem? (i := 212) (by decide +kernel))))) rfl
theorem gm_496 : (Cond.methodLink R_Fu 101 y_Te_isFull : Cond) ∈ gw := gw_of (List.mem_append_right _ (List.mem_append_right _ (List.mem_append_left _ (List.mem_of_getElem? (i := 214) (by decide +kernel))))) rfl
theorem gm_497 : (Cond.instanceMethod y_Te_isFull : Cond) ∈ gw := gw_of (List.mem_append_right _ (List.mem_append_right _ (List.mem_append_left _ (List.mem_of_getElem? (i := 215) (by decide +kernel))))) rfl
theorem gm_498 : (Cond.selects R_Te y_Te_isFull y_Te_isFull : Cond) ∈ gw := gw_of (List.mem_append_right _ (List.mem_append_right _ (List.mem_append_left _ (List.mem_of_getElem? (i := 216) (by decide +kernel))))) rfl
theorem gm_499 : (Cond.code y_Te_isFull b_Te_isFull 1 (some .boolean) : Cond) ∈ gw := gw_of (List.mem_append_right _ (List.mem_append_right _ (List.mem_append_left _ (List.mem_of_getElem? (i := 217) (by decide +kernel))))) rfl
theorem gm_500 : (Cond.methodLink R_Fu 104 y_Te_addVariable : Cond) ∈ gw := gw_of (List.mem_append_right _ (List.mem_append_right _ (List.mem_append_left _ (List.mem_of_getElem? (i := 219) (by decide +kernel))))) rfl
theorem gm_501 : (Cond.instanceMethod y_Te_addVariable : Cond) ∈ gw := gw_of (List.mem_append_right _ (List.mem_append_right _ (List.mem_append_left _ (List.mem_of_getElem? (i := 220) (by decide +kernel))))) rfl
theorem gm_502 : (Cond.selects R_Te y_Te_addVariable y_Te_addVariable : Cond) ∈ gw := gw_of (List.mem_append_right _ (List.mem_append_right _ (List.mem_append_left _ (List.mem_of_getElem? (i := 221) (by decide +kernel))))) rfl
theorem gm_503 : (Cond.code y_Te_addVariable b_Te_addVariable 2 (some .int) : Cond) ∈ gw := gw_of (List.mem_append_right _ (List.mem_append_right _ (List.mem_append_left _ (List.mem_of_getElem? (i := 222) (by decide +kernel))))) rfl
theorem gm_504 : (Cond.methodLink R_La 66 y_La_make : Cond) ∈ gw := gw_of (List.mem_append_right _ (List.mem_append_right _ (List.mem_append_left _ (List.mem_of_getElem? (i := 223) (by decide +kernel))))) rfl
theorem gm_505 : (Cond.static y_La_make : Cond) ∈ gw := gw_of (List.mem_append_right _ (List.mem_append_right _ (List.mem_append_left _ (List.mem_of_getElem? (i := 224) (by decide +kernel))))) rfl
theorem gm_506 : (Cond.methodLink R_La 24 y_Fu_make : Cond) ∈ gw := gw_of (List.mem_append_right _ (List.mem_append_right _ (List.mem_append_left _ (List.mem_of_getElem? (i := 226) (by decide +kernel))))) rfl
theorem gm_507 : (Cond.instanceMethod y_Fu_make : Cond) ∈ gw := gw_of (List.mem_append_right _ (List.mem_append_right _ (List.mem_append_left _ (List.mem_of_getElem? (i := 227) (by decide +kernel))))) rfl
theorem gm_508 : (Cond.selects R_Fu y_Fu_make y_Fu_make : Cond) ∈ gw := gw_of (List.mem_append_right _ (List.mem_append_right _ (List.mem_append_left _ (List.mem_of_getElem? (i := 228) (by decide +kernel))))) rfl
theorem gm_509 : (Cond.code y_Fu_make b_Fu_make 5 (some .int) : Cond) ∈ gw := gw_of (List.mem_append_right _ (List.mem_append_right _ (List.mem_append_left _ (List.mem_of_getElem? (i := 229) (by decide +kernel))))) rfl
theorem gm_510 : (Cond.methodLink R_Fu 108 y_Sg_has : Cond) ∈ gw := gw_of (List.mem_append_right _ (List.mem_append_right _ (List.mem_append_left _ (List.mem_of_getElem? (i := 230) (by decide +kernel))))) rfl
theorem gm_511 : (Cond.instanceMethod y_Sg_has : Cond) ∈ gw := gw_of (List.mem_append_right _ (List.mem_append_right _ (List.mem_append_left _ (List.mem_of_getElem? (i := 231) (by decide +kernel))))) rfl
theorem gm_512 : (Cond.selects R_Sg y_Sg_has y_Sg_has : Cond) ∈ gw := gw_of (List.mem_append_right _ (List.mem_append_right _ (List.mem_append_left _ (List.mem_of_getElem? (i := 232) (by decide +kernel))))) rfl
theorem gm_513 : (Cond.code y_Sg_has b_Sg_has 2 (some .boolean) : Cond) ∈ gw := gw_of (List.mem_append_right _ (List.mem_append_right _ (List.mem_append_left _ (List.mem_of_getElem? (i := 233) (by decide +kernel))))) rfl
theorem gm_514 : (Cond.methodLink R_Fu 112 y_Sg_width : Cond) ∈ gw := gw_of (List.mem_append_right _ (List.mem_append_right _ (List.mem_append_left _ (List.mem_of_getElem? (i := 234) (by decide +kernel))))) rfl
theorem gm_515 : (Cond.methodLink R_Fu 115 y_Te_canJoin : Cond) ∈ gw := gw_of (List.mem_append_right _ (List.mem_append_right _ (List.mem_append_left _ (List.mem_of_getElem? (i := 235) (by decide +kernel))))) rfl
theorem gm_516 : (Cond.instanceMethod y_Te_canJoin : Cond) ∈ gw := gw_of (List.mem_append_right _ (List.mem_append_right _ (List.mem_append_left _ (List.mem_of_getElem? (i := 236) (by decide +kernel))))) rfl
theorem gm_517 : (Cond.selects R_Te y_Te_canJoin y_Te_canJoin : Cond) ∈ gw := gw_of (List.mem_append_right _ (List.mem_append_right _ (List.mem_append_left _ (List.mem_of_getElem? (i := 237) (by decide +kernel))))) rfl
theorem gm_518 : (Cond.code y_Te_canJoin b_Te_canJoin 9 (some .boolean) : Cond) ∈ gw := gw_of (List.mem_append_right _ (List.mem_append_right _ (List.mem_append_left _ (List.mem_of_getElem? (i := 238) (by decide +kernel))))) rfl
theorem gm_519 : (Cond.methodLink R_Te 48 y_Te_has : Cond) ∈ gw := gw_of (List.mem_append_right _ (List.mem_append_right _ (List.mem_append_right _ (List.mem_append_left _ (List.mem_of_getElem? (i := 0) (by decide +kernel)))))) rfl
theorem gm_520 : (Cond.methodLink R_Te 52 y_Jm_max : Cond) ∈ gw := gw_of (List.mem_append_right _ (List.mem_append_right _ (List.mem_append_right _ (List.mem_append_left _ (List.mem_of_getElem? (i := 1) (by decide +kernel)))))) rfl
theorem gm_521 : (Cond.static y_Jm_max : Cond) ∈ gw := gw_of (List.mem_append_right _ (List.mem_append_right _ (List.mem_append_right _ (List.mem_append_left _ (List.mem_of_getElem? (i := 2) (by decide +kernel)))))) rfl
theorem gm_522 : (Cond.code y_Jm_max b_Jm_max 2 (some .int) : Cond) ∈ gw := gw_of (List.mem_append_right _ (List.mem_append_right _ (List.mem_append_right _ (List.mem_append_left _ (List.mem_of_getElem? (i := 3) (by decide +kernel)))))) rfl
theorem gm_523 : (Cond.methodLink R_Fu 120 y_Te_addMade : Cond) ∈ gw := gw_of (List.mem_append_right _ (List.mem_append_right _ (List.mem_append_right _ (List.mem_append_left _ (List.mem_of_getElem? (i := 5) (by decide +kernel)))))) rfl
theorem gm_524 : (Cond.instanceMethod y_Te_addMade : Cond) ∈ gw := gw_of (List.mem_append_right _ (List.mem_append_right _ (List.mem_append_right _ (List.mem_append_left _ (List.mem_of_getElem? (i := 6) (by decide +kernel)))))) rfl
theorem gm_525 : (Cond.selects R_Te y_Te_addMade y_Te_addMade : Cond) ∈ gw := gw_of (List.mem_append_right _ (List.mem_append_right _ (List.mem_append_right _ (List.mem_append_left _ (List.mem_of_getElem? (i := 7) (by decide +kernel)))))) rfl
theorem gm_526 : (Cond.code y_Te_addMade b_Te_addMade 6 (some .int) : Cond) ∈ gw := gw_of (List.mem_append_right _ (List.mem_append_right _ (List.mem_append_right _ (List.mem_append_left _ (List.mem_of_getElem? (i := 8) (by decide +kernel)))))) rfl
theorem gm_527 : (Cond.methodLink R_Te 58 y_Te_join : Cond) ∈ gw := gw_of (List.mem_append_right _ (List.mem_append_right _ (List.mem_append_right _ (List.mem_append_left _ (List.mem_of_getElem? (i := 9) (by decide +kernel)))))) rfl
theorem gm_528 : (Cond.instanceMethod y_Te_join : Cond) ∈ gw := gw_of (List.mem_append_right _ (List.mem_append_right _ (List.mem_append_right _ (List.mem_append_left _ (List.mem_of_getElem? (i := 11) (by decide +kernel)))))) rfl
theorem gm_529 : (Cond.code y_Te_join b_Te_join 10 (some .int) : Cond) ∈ gw := gw_of (List.mem_append_right _ (List.mem_append_right _ (List.mem_append_right _ (List.mem_append_left _ (List.mem_of_getElem? (i := 12) (by decide +kernel)))))) rfl
theorem gm_530 : (Cond.methodLink R_La 69 y_La_call : Cond) ∈ gw := gw_of (List.mem_append_right _ (List.mem_append_right _ (List.mem_append_right _ (List.mem_append_left _ (List.mem_of_getElem? (i := 13) (by decide +kernel)))))) rfl
theorem gm_531 : (Cond.static y_La_call : Cond) ∈ gw := gw_of (List.mem_append_right _ (List.mem_append_right _ (List.mem_append_right _ (List.mem_append_left _ (List.mem_of_getElem? (i := 14) (by decide +kernel)))))) rfl
theorem gm_532 : (Cond.methodLink R_La 27 y_Fu_call : Cond) ∈ gw := gw_of (List.mem_append_right _ (List.mem_append_right _ (List.mem_append_right _ (List.mem_append_left _ (List.mem_of_getElem? (i := 16) (by decide +kernel)))))) rfl
theorem gm_533 : (Cond.instanceMethod y_Fu_call : Cond) ∈ gw := gw_of (List.mem_append_right _ (List.mem_append_right _ (List.mem_append_right _ (List.mem_append_left _ (List.mem_of_getElem? (i := 17) (by decide +kernel)))))) rfl
theorem gm_534 : (Cond.selects R_Fu y_Fu_call y_Fu_call : Cond) ∈ gw := gw_of (List.mem_append_right _ (List.mem_append_right _ (List.mem_append_right _ (List.mem_append_left _ (List.mem_of_getElem? (i := 18) (by decide +kernel)))))) rfl
theorem gm_535 : (Cond.code y_Fu_call b_Fu_call 5 (some .int) : Cond) ∈ gw := gw_of (List.mem_append_right _ (List.mem_append_right _ (List.mem_append_right _ (List.mem_append_left _ (List.mem_of_getElem? (i := 19) (by decide +kernel)))))) rfl
theorem gm_536 : (Cond.methodLink R_Fu 126 y_Te_addCalled : Cond) ∈ gw := gw_of (List.mem_append_right _ (List.mem_append_right _ (List.mem_append_right _ (List.mem_append_left _ (List.mem_of_getElem? (i := 21) (by decide +kernel)))))) rfl
theorem gm_537 : (Cond.instanceMethod y_Te_addCalled : Cond) ∈ gw := gw_of (List.mem_append_right _ (List.mem_append_right _ (List.mem_append_right _ (List.mem_append_left _ (List.mem_of_getElem? (i := 22) (by decide +kernel)))))) rfl
theorem gm_538 : (Cond.selects R_Te y_Te_addCalled y_Te_addCalled : Cond) ∈ gw := gw_of (List.mem_append_right _ (List.mem_append_right _ (List.mem_append_right _ (List.mem_append_left _ (List.mem_of_getElem? (i := 23) (by decide +kernel)))))) rfl
theorem gm_539 : (Cond.code y_Te_addCalled b_Te_addCalled 6 (some .int) : Cond) ∈ gw := gw_of (List.mem_append_right _ (List.mem_append_right _ (List.mem_append_right _ (List.mem_append_left _ (List.mem_of_getElem? (i := 24) (by decide +kernel)))))) rfl
theorem gm_540 : (Cond.methodLink R_La 72 y_La_clause : Cond) ∈ gw := gw_of (List.mem_append_right _ (List.mem_append_right _ (List.mem_append_right _ (List.mem_append_left _ (List.mem_of_getElem? (i := 25) (by decide +kernel)))))) rfl
theorem gm_541 : (Cond.static y_La_clause : Cond) ∈ gw := gw_of (List.mem_append_right _ (List.mem_append_right _ (List.mem_append_right _ (List.mem_append_left _ (List.mem_of_getElem? (i := 26) (by decide +kernel)))))) rfl
theorem gm_542 : (Cond.methodLink R_La 30 y_Fu_clause : Cond) ∈ gw := gw_of (List.mem_append_right _ (List.mem_append_right _ (List.mem_append_right _ (List.mem_append_left _ (List.mem_of_getElem? (i := 28) (by decide +kernel)))))) rfl
theorem gm_543 : (Cond.instanceMethod y_Fu_clause : Cond) ∈ gw := gw_of (List.mem_append_right _ (List.mem_append_right _ (List.mem_append_right _ (List.mem_append_left _ (List.mem_of_getElem? (i := 29) (by decide +kernel)))))) rfl
theorem gm_544 : (Cond.selects R_Fu y_Fu_clause y_Fu_clause : Cond) ∈ gw := gw_of (List.mem_append_right _ (List.mem_append_right _ (List.mem_append_right _ (List.mem_append_left _ (List.mem_of_getElem? (i := 30) (by decide +kernel)))))) rfl
theorem gm_545 : (Cond.code y_Fu_clause b_Fu_clause 6 (some .int) : Cond) ∈ gw := gw_of (List.mem_append_right _ (List.mem_append_right _ (List.mem_append_right _ (List.mem_append_left _ (List.mem_of_getElem? (i := 31) (by decide +kernel)))))) rfl
theorem gm_546 : (Cond.methodLink R_Fu 129 y_Cl_isWellFormed : Cond) ∈ gw := gw_of (List.mem_append_right _ (List.mem_append_right _ (List.mem_append_right _ (List.mem_append_left _ (List.mem_of_getElem? (i := 32) (by decide +kernel)))))) rfl
theorem gm_547 : (Cond.instanceMethod y_Cl_isWellFormed : Cond) ∈ gw := gw_of (List.mem_append_right _ (List.mem_append_right _ (List.mem_append_right _ (List.mem_append_left _ (List.mem_of_getElem? (i := 33) (by decide +kernel)))))) rfl
theorem gm_548 : (Cond.selects R_Cl y_Cl_isWellFormed y_Cl_isWellFormed : Cond) ∈ gw := gw_of (List.mem_append_right _ (List.mem_append_right _ (List.mem_append_right _ (List.mem_append_left _ (List.mem_of_getElem? (i := 34) (by decide +kernel)))))) rfl
theorem gm_549 : (Cond.code y_Cl_isWellFormed b_Cl_isWellFormed 9 (some .boolean) : Cond) ∈ gw := gw_of (List.mem_append_right _ (List.mem_append_right _ (List.mem_append_right _ (List.mem_append_left _ (List.mem_of_getElem? (i := 35) (by decide +kernel)))))) rfl
theorem gm_550 : (Cond.methodLink R_Cl 43 y_Te_has : Cond) ∈ gw := gw_of (List.mem_append_right _ (List.mem_append_right _ (List.mem_append_right _ (List.mem_append_left _ (List.mem_of_getElem? (i := 37) (by decide +kernel)))))) rfl
theorem gm_551 : (Cond.methodLink R_Cl 49 y_Te_isPattern : Cond) ∈ gw := gw_of (List.mem_append_right _ (List.mem_append_right _ (List.mem_append_right _ (List.mem_append_left _ (List.mem_of_getElem? (i := 38) (by decide +kernel)))))) rfl
theorem gm_552 : (Cond.instanceMethod y_Te_isPattern : Cond) ∈ gw := gw_of (List.mem_append_right _ (List.mem_append_right _ (List.mem_append_right _ (List.mem_append_left _ (List.mem_of_getElem? (i := 39) (by decide +kernel)))))) rfl
theorem gm_553 : (Cond.selects R_Te y_Te_isPattern y_Te_isPattern : Cond) ∈ gw := gw_of (List.mem_append_right _ (List.mem_append_right _ (List.mem_append_right _ (List.mem_append_left _ (List.mem_of_getElem? (i := 40) (by decide +kernel)))))) rfl
theorem gm_554 : (Cond.code y_Te_isPattern b_Te_isPattern 2 (some .boolean) : Cond) ∈ gw := gw_of (List.mem_append_right _ (List.mem_append_right _ (List.mem_append_right _ (List.mem_append_left _ (List.mem_of_getElem? (i := 41) (by decide +kernel)))))) rfl
theorem gm_555 : (Cond.methodLink R_Cl 52 y_Te_variables : Cond) ∈ gw := gw_of (List.mem_append_right _ (List.mem_append_right _ (List.mem_append_right _ (List.mem_append_left _ (List.mem_of_getElem? (i := 42) (by decide +kernel)))))) rfl
theorem gm_556 : (Cond.instanceMethod y_Te_variables : Cond) ∈ gw := gw_of (List.mem_append_right _ (List.mem_append_right _ (List.mem_append_right _ (List.mem_append_left _ (List.mem_of_getElem? (i := 43) (by decide +kernel)))))) rfl
theorem gm_557 : (Cond.selects R_Te y_Te_variables y_Te_variables : Cond) ∈ gw := gw_of (List.mem_append_right _ (List.mem_append_right _ (List.mem_append_right _ (List.mem_append_left _ (List.mem_of_getElem? (i := 44) (by decide +kernel)))))) rfl
theorem gm_558 : (Cond.code y_Te_variables b_Te_variables 2 (some .int) : Cond) ∈ gw := gw_of (List.mem_append_right _ (List.mem_append_right _ (List.mem_append_right _ (List.mem_append_left _ (List.mem_of_getElem? (i := 45) (by decide +kernel)))))) rfl
theorem gm_559 : (Cond.methodLink R_Fu 135 y_Cl_isFull : Cond) ∈ gw := gw_of (List.mem_append_right _ (List.mem_append_right _ (List.mem_append_right _ (List.mem_append_left _ (List.mem_of_getElem? (i := 47) (by decide +kernel)))))) rfl
theorem gm_560 : (Cond.instanceMethod y_Cl_isFull : Cond) ∈ gw := gw_of (List.mem_append_right _ (List.mem_append_right _ (List.mem_append_right _ (List.mem_append_left _ (List.mem_of_getElem? (i := 48) (by decide +kernel)))))) rfl
theorem gm_561 : (Cond.selects R_Cl y_Cl_isFull y_Cl_isFull : Cond) ∈ gw := gw_of (List.mem_append_right _ (List.mem_append_right _ (List.mem_append_right _ (List.mem_append_left _ (List.mem_of_getElem? (i := 49) (by decide +kernel)))))) rfl
theorem gm_562 : (Cond.code y_Cl_isFull b_Cl_isFull 2 (some .boolean) : Cond) ∈ gw := gw_of (List.mem_append_right _ (List.mem_append_right _ (List.mem_append_right _ (List.mem_append_left _ (List.mem_of_getElem? (i := 50) (by decide +kernel)))))) rfl
theorem gm_563 : (Cond.methodLink R_Fu 139 y_Cl_add : Cond) ∈ gw := gw_of (List.mem_append_right _ (List.mem_append_right _ (List.mem_append_right _ (List.mem_append_left _ (List.mem_of_getElem? (i := 52) (by decide +kernel)))))) rfl
theorem gm_564 : (Cond.instanceMethod y_Cl_add : Cond) ∈ gw := gw_of (List.mem_append_right _ (List.mem_append_right _ (List.mem_append_right _ (List.mem_append_left _ (List.mem_of_getElem? (i := 53) (by decide +kernel)))))) rfl
theorem gm_565 : (Cond.selects R_Cl y_Cl_add y_Cl_add : Cond) ∈ gw := gw_of (List.mem_append_right _ (List.mem_append_right _ (List.mem_append_right _ (List.mem_append_left _ (List.mem_of_getElem? (i := 54) (by decide +kernel)))))) rfl
theorem gm_566 : (Cond.code y_Cl_add b_Cl_add 7 (some .int) : Cond) ∈ gw := gw_of (List.mem_append_right _ (List.mem_append_right _ (List.mem_append_right _ (List.mem_append_left _ (List.mem_of_getElem? (i := 55) (by decide +kernel)))))) rfl
theorem gm_567 : (Cond.methodLink R_Cl 56 y_Sg_width : Cond) ∈ gw := gw_of (List.mem_append_right _ (List.mem_append_right _ (List.mem_append_right _ (List.mem_append_left _ (List.mem_of_getElem? (i := 56) (by decide +kernel)))))) rfl
theorem gm_568 : (Cond.methodLink R_La 84 y_La_arc : Cond) ∈ gw := gw_of (List.mem_append_right _ (List.mem_append_right _ (List.mem_append_right _ (List.mem_append_left _ (List.mem_of_getElem? (i := 57) (by decide +kernel)))))) rfl
theorem gm_569 : (Cond.static y_La_arc : Cond) ∈ gw := gw_of (List.mem_append_right _ (List.mem_append_right _ (List.mem_append_right _ (List.mem_append_left _ (List.mem_of_getElem? (i := 58) (by decide +kernel)))))) rfl
theorem gm_570 : (Cond.methodLink R_La 34 y_Fu_arc : Cond) ∈ gw := gw_of (List.mem_append_right _ (List.mem_append_right _ (List.mem_append_right _ (List.mem_append_left _ (List.mem_of_getElem? (i := 60) (by decide +kernel)))))) rfl
theorem gm_571 : (Cond.instanceMethod y_Fu_arc : Cond) ∈ gw := gw_of (List.mem_append_right _ (List.mem_append_right _ (List.mem_append_right _ (List.mem_append_left _ (List.mem_of_getElem? (i := 61) (by decide +kernel)))))) rfl
theorem gm_572 : (Cond.selects R_Fu y_Fu_arc y_Fu_arc : Cond) ∈ gw := gw_of (List.mem_append_right _ (List.mem_append_right _ (List.mem_append_right _ (List.mem_append_left _ (List.mem_of_getElem? (i := 62) (by decide +kernel)))))) rfl
theorem gm_573 : (Cond.code y_Fu_arc b_Fu_arc 7 (some .int) : Cond) ∈ gw := gw_of (List.mem_append_right _ (List.mem_append_right _ (List.mem_append_right _ (List.mem_append_left _ (List.mem_of_getElem? (i := 63) (by decide +kernel)))))) rfl
theorem gm_574 : (Cond.methodLink R_Fu 149 y_Cl_has : Cond) ∈ gw := gw_of (List.mem_append_right _ (List.mem_append_right _ (List.mem_append_right _ (List.mem_append_left _ (List.mem_of_getElem? (i := 64) (by decide +kernel)))))) rfl
theorem gm_575 : (Cond.instanceMethod y_Cl_has : Cond) ∈ gw := gw_of (List.mem_append_right _ (List.mem_append_right _ (List.mem_append_right _ (List.mem_append_left _ (List.mem_of_getElem? (i := 65) (by decide +kernel)))))) rfl
theorem gm_576 : (Cond.selects R_Cl y_Cl_has y_Cl_has : Cond) ∈ gw := gw_of (List.mem_append_right _ (List.mem_append_right _ (List.mem_append_right _ (List.mem_append_left _ (List.mem_of_getElem? (i := 66) (by decide +kernel)))))) rfl
theorem gm_577 : (Cond.code y_Cl_has b_Cl_has 2 (some .boolean) : Cond) ∈ gw := gw_of (List.mem_append_right _ (List.mem_append_right _ (List.mem_append_right _ (List.mem_append_left _ (List.mem_of_getElem? (i := 67) (by decide +kernel)))))) rfl
theorem gm_578 : (Cond.methodLink R_Fu 152 y_En_callInBody : Cond) ∈ gw := gw_of (List.mem_append_right _ (List.mem_append_right _ (List.mem_append_right _ (List.mem_append_left _ (List.mem_of_getElem? (i := 69) (by decide +kernel)))))) rfl
theorem gm_579 : (Cond.instanceMethod y_En_callInBody : Cond) ∈ gw := gw_of (List.mem_append_right _ (List.mem_append_right _ (List.mem_append_right _ (List.mem_append_left _ (List.mem_of_getElem? (i := 70) (by decide +kernel)))))) rfl
theorem gm_580 : (Cond.selects R_En y_En_callInBody y_En_callInBody : Cond) ∈ gw := gw_of (List.mem_append_right _ (List.mem_append_right _ (List.mem_append_right _ (List.mem_append_left _ (List.mem_of_getElem? (i := 71) (by decide +kernel)))))) rfl
theorem gm_581 : (Cond.code y_En_callInBody b_En_callInBody 3 (some .int) : Cond) ∈ gw := gw_of (List.mem_append_right _ (List.mem_append_right _ (List.mem_append_right _ (List.mem_append_left _ (List.mem_of_getElem? (i := 72) (by decide +kernel)))))) rfl
theorem gm_582 : (Cond.methodLink R_Fu 158 y_Cl_owner : Cond) ∈ gw := gw_of (List.mem_append_right _ (List.mem_append_right _ (List.mem_append_right _ (List.mem_append_left _ (List.mem_of_getElem? (i := 74) (by decide +kernel)))))) rfl
theorem gm_583 : (Cond.methodLink R_Fu 161 y_Te_width : Cond) ∈ gw := gw_of (List.mem_append_right _ (List.mem_append_right _ (List.mem_append_right _ (List.mem_append_left _ (List.mem_of_getElem? (i := 75) (by decide +kernel)))))) rfl
theorem gm_584 : (Cond.methodLink R_Fu 164 y_Cl_pattern : Cond) ∈ gw := gw_of (List.mem_append_right _ (List.mem_append_right _ (List.mem_append_right _ (List.mem_append_left _ (List.mem_of_getElem? (i := 77) (by decide +kernel)))))) rfl
theorem gm_585 : (Cond.methodLink R_Fu 167 y_Te_part : Cond) ∈ gw := gw_of (List.mem_append_right _ (List.mem_append_right _ (List.mem_append_right _ (List.mem_append_left _ (List.mem_of_getElem? (i := 78) (by decide +kernel)))))) rfl
theorem gm_586 : (Cond.methodLink R_Fu 170 y_En_arcBetween : Cond) ∈ gw := gw_of (List.mem_append_right _ (List.mem_append_right _ (List.mem_append_right _ (List.mem_append_left _ (List.mem_of_getElem? (i := 79) (by decide +kernel)))))) rfl
theorem gm_587 : (Cond.methodLink R_La 92 y_La_run : Cond) ∈ gw := gw_of (List.mem_append_right _ (List.mem_append_right _ (List.mem_append_right _ (List.mem_append_left _ (List.mem_of_getElem? (i := 80) (by decide +kernel)))))) rfl
theorem gm_588 : (Cond.static y_La_run : Cond) ∈ gw := gw_of (List.mem_append_right _ (List.mem_append_right _ (List.mem_append_right _ (List.mem_append_left _ (List.mem_of_getElem? (i := 81) (by decide +kernel)))))) rfl
theorem gm_589 : (Cond.methodLink R_La 37 y_Fu_run : Cond) ∈ gw := gw_of (List.mem_append_right _ (List.mem_append_right _ (List.mem_append_right _ (List.mem_append_left _ (List.mem_of_getElem? (i := 83) (by decide +kernel)))))) rfl
theorem gm_590 : (Cond.instanceMethod y_Fu_run : Cond) ∈ gw := gw_of (List.mem_append_right _ (List.mem_append_right _ (List.mem_append_right _ (List.mem_append_left _ (List.mem_of_getElem? (i := 84) (by decide +kernel)))))) rfl
theorem gm_591 : (Cond.selects R_Fu y_Fu_run y_Fu_run : Cond) ∈ gw := gw_of (List.mem_append_right _ (List.mem_append_right _ (List.mem_append_right _ (List.mem_append_left _ (List.mem_of_getElem? (i := 85) (by decide +kernel)))))) rfl
theorem gm_592 : (Cond.code y_Fu_run b_Fu_run 5 (some .int) : Cond) ∈ gw := gw_of (List.mem_append_right _ (List.mem_append_right _ (List.mem_append_right _ (List.mem_append_left _ (List.mem_of_getElem? (i := 86) (by decide +kernel)))))) rfl
theorem gm_593 : (Cond.methodLink R_Fu 183 y_Fu_areArguments : Cond) ∈ gw := gw_of (List.mem_append_right _ (List.mem_append_right _ (List.mem_append_right _ (List.mem_append_left _ (List.mem_of_getElem? (i := 88) (by decide +kernel)))))) rfl
theorem gm_594 : (Cond.instanceMethod y_Fu_areArguments : Cond) ∈ gw := gw_of (List.mem_append_right _ (List.mem_append_right _ (List.mem_append_right _ (List.mem_append_left _ (List.mem_of_getElem? (i := 90) (by decide +kernel)))))) rfl
theorem gm_595 : (Cond.code y_Fu_areArguments b_Fu_areArguments 6 (some .boolean) : Cond) ∈ gw := gw_of (List.mem_append_right _ (List.mem_append_right _ (List.mem_append_right _ (List.mem_append_left _ (List.mem_of_getElem? (i := 91) (by decide +kernel)))))) rfl
theorem gm_596 : (Cond.methodLink R_Fu 228 y_Sg_placeType : Cond) ∈ gw := gw_of (List.mem_append_right _ (List.mem_append_right _ (List.mem_append_right _ (List.mem_append_left _ (List.mem_of_getElem? (i := 92) (by decide +kernel)))))) rfl
theorem gm_597 : (Cond.methodLink R_Fu 231 y_Fu_isValue : Cond) ∈ gw := gw_of (List.mem_append_right _ (List.mem_append_right _ (List.mem_append_right _ (List.mem_append_left _ (List.mem_of_getElem? (i := 93) (by decide +kernel)))))) rfl
theorem gm_598 : (Cond.methodLink R_Fu 188 y_Ma_perform : Cond) ∈ gw := gw_of (List.mem_append_right _ (List.mem_append_right _ (List.mem_append_right _ (List.mem_append_left _ (List.mem_of_getElem? (i := 95) (by decide +kernel)))))) rfl
theorem gm_599 : (Cond.instanceMethod y_Ma_perform : Cond) ∈ gw := gw_of (List.mem_append_right _ (List.mem_append_right _ (List.mem_append_right _ (List.mem_append_left _ (List.mem_of_getElem? (i := 96) (by decide +kernel)))))) rfl
theorem gm_600 : (Cond.selects R_Ma y_Ma_perform y_Ma_perform : Cond) ∈ gw := gw_of (List.mem_append_right _ (List.mem_append_right _ (List.mem_append_right _ (List.mem_append_left _ (List.mem_of_getElem? (i := 97) (by decide +kernel)))))) rfl
theorem gm_601 : (Cond.code y_Ma_perform b_Ma_perform 6 (some .int) : Cond) ∈ gw := gw_of (List.mem_append_right _ (List.mem_append_right _ (List.mem_append_right _ (List.mem_append_left _ (List.mem_of_getElem? (i := 98) (by decide +kernel)))))) rfl
theorem gm_602 : (Cond.methodLink R_Ma 58 y_Va_forgetMade : Cond) ∈ gw := gw_of (List.mem_append_right _ (List.mem_append_right _ (List.mem_append_right _ (List.mem_append_left _ (List.mem_of_getElem? (i := 99) (by decide +kernel)))))) rfl
theorem gm_603 : (Cond.instanceMethod y_Va_forgetMade : Cond) ∈ gw := gw_of (List.mem_append_right _ (List.mem_append_right _ (List.mem_append_right _ (List.mem_append_left _ (List.mem_of_getElem? (i := 100) (by decide +kernel)))))) rfl
theorem gm_604 : (Cond.selects R_Va y_Va_forgetMade y_Va_forgetMade : Cond) ∈ gw := gw_of (List.mem_append_right _ (List.mem_append_right _ (List.mem_append_right _ (List.mem_append_left _ (List.mem_of_getElem? (i := 101) (by decide +kernel)))))) rfl
theorem gm_605 : (Cond.code y_Va_forgetMade b_Va_forgetMade 1 none : Cond) ∈ gw := gw_of (List.mem_append_right _ (List.mem_append_right _ (List.mem_append_right _ (List.mem_append_left _ (List.mem_of_getElem? (i := 102) (by decide +kernel)))))) rfl
theorem gm_606 : (Cond.methodLink R_Ma 71 y_Sg_width : Cond) ∈ gw := gw_of (List.mem_append_right _ (List.mem_append_right _ (List.mem_append_right _ (List.mem_append_left _ (List.mem_of_getElem? (i := 103) (by decide +kernel)))))) rfl
theorem gm_607 : (Cond.methodLink R_Ma 81 y_Ma_hold : Cond) ∈ gw := gw_of (List.mem_append_right _ (List.mem_append_right _ (List.mem_append_right _ (List.mem_append_left _ (List.mem_of_getElem? (i := 105) (by decide +kernel)))))) rfl
theorem gm_608 : (Cond.instanceMethod y_Ma_hold : Cond) ∈ gw := gw_of (List.mem_append_right _ (List.mem_append_right _ (List.mem_append_right _ (List.mem_append_left _ (List.mem_of_getElem? (i := 107) (by decide +kernel)))))) rfl
theorem gm_609 : (Cond.code y_Ma_hold b_Ma_hold 2 none : Cond) ∈ gw := gw_of (List.mem_append_right _ (List.mem_append_right _ (List.mem_append_right _ (List.mem_append_left _ (List.mem_of_getElem? (i := 108) (by decide +kernel)))))) rfl
theorem gm_610 : (Cond.methodLink R_Ma 85 y_Ma_step : Cond) ∈ gw := gw_of (List.mem_append_right _ (List.mem_append_right _ (List.mem_append_right _ (List.mem_append_left _ (List.mem_of_getElem? (i := 109) (by decide +kernel)))))) rfl
theorem gm_611 : (Cond.instanceMethod y_Ma_step : Cond) ∈ gw := gw_of (List.mem_append_right _ (List.mem_append_right _ (List.mem_append_right _ (List.mem_append_left _ (List.mem_of_getElem? (i := 111) (by decide +kernel)))))) rfl
theorem gm_612 : (Cond.code y_Ma_step b_Ma_step 6 none : Cond) ∈ gw := gw_of (List.mem_append_right _ (List.mem_append_right _ (List.mem_append_right _ (List.mem_append_left _ (List.mem_of_getElem? (i := 112) (by decide +kernel)))))) rfl
theorem gm_613 : (Cond.methodLink R_Ma 129 y_Cl_howManyOf : Cond) ∈ gw := gw_of (List.mem_append_right _ (List.mem_append_right _ (List.mem_append_right _ (List.mem_append_left _ (List.mem_of_getElem? (i := 113) (by decide +kernel)))))) rfl
theorem gm_614 : (Cond.methodLink R_Ma 134 y_Cl_ofFunction : Cond) ∈ gw := gw_of (List.mem_append_right _ (List.mem_append_right _ (List.mem_append_right _ (List.mem_append_left _ (List.mem_of_getElem? (i := 114) (by decide +kernel)))))) rfl
theorem gm_615 : (Cond.methodLink R_Ma 137 y_Ma_matchesAll : Cond) ∈ gw := gw_of (List.mem_append_right _ (List.mem_append_right _ (List.mem_append_right _ (List.mem_append_left _ (List.mem_of_getElem? (i := 115) (by decide +kernel)))))) rfl
theorem gm_616 : (Cond.instanceMethod y_Ma_matchesAll : Cond) ∈ gw := gw_of (List.mem_append_right _ (List.mem_append_right _ (List.mem_append_right _ (List.mem_append_left _ (List.mem_of_getElem? (i := 117) (by decide +kernel)))))) rfl
theorem gm_617 : (Cond.code y_Ma_matchesAll b_Ma_matchesAll 5 (some .boolean) : Cond) ∈ gw := gw_of (List.mem_append_right _ (List.mem_append_right _ (List.mem_append_right _ (List.mem_append_left _ (List.mem_of_getElem? (i := 118) (by decide +kernel)))))) rfl
theorem gm_618 : (Cond.methodLink R_Ma 144 y_Cl_pattern : Cond) ∈ gw := gw_of (List.mem_append_right _ (List.mem_append_right _ (List.mem_append_right _ (List.mem_append_left _ (List.mem_of_getElem? (i := 119) (by decide +kernel)))))) rfl
theorem gm_619 : (Cond.methodLink R_Ma 147 y_Ma_matches : Cond) ∈ gw := gw_of (List.mem_append_right _ (List.mem_append_right _ (List.mem_append_right _ (List.mem_append_left _ (List.mem_of_getElem? (i := 120) (by decide +kernel)))))) rfl
theorem gm_620 : (Cond.instanceMethod y_Ma_matches : Cond) ∈ gw := gw_of (List.mem_append_right _ (List.mem_append_right _ (List.mem_append_right _ (List.mem_append_left _ (List.mem_of_getElem? (i := 122) (by decide +kernel)))))) rfl
theorem gm_621 : (Cond.code y_Ma_matches b_Ma_matches 5 (some .boolean) : Cond) ∈ gw := gw_of (List.mem_append_right _ (List.mem_append_right _ (List.mem_append_right _ (List.mem_append_left _ (List.mem_of_getElem? (i := 123) (by decide +kernel)))))) rfl
theorem gm_622 : (Cond.methodLink R_Ma 115 y_Te_isVariable : Cond) ∈ gw := gw_of (List.mem_append_right _ (List.mem_append_right _ (List.mem_append_right _ (List.mem_append_left _ (List.mem_of_getElem? (i := 124) (by decide +kernel)))))) rfl
theorem gm_623 : (Cond.methodLink R_Ma 109 y_Te_head : Cond) ∈ gw := gw_of (List.mem_append_right _ (List.mem_append_right _ (List.mem_append_right _ (List.mem_append_left _ (List.mem_of_getElem? (i := 125) (by decide +kernel)))))) rfl
theorem gm_624 : (Cond.methodLink R_Ma 150 y_Va_maker : Cond) ∈ gw := gw_of (List.mem_append_right _ (List.mem_append_right _ (List.mem_append_right _ (List.mem_append_left _ (List.mem_of_getElem? (i := 126) (by decide +kernel)))))) rfl
theorem gm_625 : (Cond.instanceMethod y_Va_maker : Cond) ∈ gw := gw_of (List.mem_append_right _ (List.mem_append_right _ (List.mem_append_right _ (List.mem_append_left _ (List.mem_of_getElem? (i := 127) (by decide +kernel)))))) rfl
theorem gm_626 : (Cond.selects R_Va y_Va_maker y_Va_maker : Cond) ∈ gw := gw_of (List.mem_append_right _ (List.mem_append_right _ (List.mem_append_right _ (List.mem_append_left _ (List.mem_of_getElem? (i := 128) (by decide +kernel)))))) rfl
theorem gm_627 : (Cond.code y_Va_maker b_Va_maker 2 (some .int) : Cond) ∈ gw := gw_of (List.mem_append_right _ (List.mem_append_right _ (List.mem_append_right _ (List.mem_append_left _ (List.mem_of_getElem? (i := 129) (by decide +kernel)))))) rfl
theorem gm_628 : (Cond.methodLink R_Va 33 y_Te_head : Cond) ∈ gw := gw_of (List.mem_append_right _ (List.mem_append_right _ (List.mem_append_right _ (List.mem_append_left _ (List.mem_of_getElem? (i := 130) (by decide +kernel)))))) rfl
theorem gm_629 : (Cond.methodLink R_Ma 94 y_Te_width : Cond) ∈ gw := gw_of (List.mem_append_right _ (List.mem_append_right _ (List.mem_append_right _ (List.mem_append_left _ (List.mem_of_getElem? (i := 131) (by decide +kernel)))))) rfl
theorem gm_630 : (Cond.methodLink R_Ma 97 y_Te_part : Cond) ∈ gw := gw_of (List.mem_append_right _ (List.mem_append_right _ (List.mem_append_right _ (List.mem_append_left _ (List.mem_of_getElem? (i := 132) (by decide +kernel)))))) rfl
theorem gm_631 : (Cond.methodLink R_Ma 153 y_Va_part : Cond) ∈ gw := gw_of (List.mem_append_right _ (List.mem_append_right _ (List.mem_append_right _ (List.mem_append_left _ (List.mem_of_getElem? (i := 133) (by decide +kernel)))))) rfl
theorem gm_632 : (Cond.instanceMethod y_Va_part : Cond) ∈ gw := gw_of (List.mem_append_right _ (List.mem_append_right _ (List.mem_append_right _ (List.mem_append_left _ (List.mem_of_getElem? (i := 134) (by decide +kernel)))))) rfl
theorem gm_633 : (Cond.selects R_Va y_Va_part y_Va_part : Cond) ∈ gw := gw_of (List.mem_append_right _ (List.mem_append_right _ (List.mem_append_right _ (List.mem_append_left _ (List.mem_of_getElem? (i := 135) (by decide +kernel)))))) rfl
theorem gm_634 : (Cond.code y_Va_part b_Va_part 3 (some .int) : Cond) ∈ gw := gw_of (List.mem_append_right _ (List.mem_append_right _ (List.mem_append_right _ (List.mem_append_left _ (List.mem_of_getElem? (i := 136) (by decide +kernel)))))) rfl
theorem gm_635 : (Cond.methodLink R_Va 46 y_Te_part : Cond) ∈ gw := gw_of (List.mem_append_right _ (List.mem_append_right _ (List.mem_append_right _ (List.mem_append_left _ (List.mem_of_getElem? (i := 137) (by decide +kernel)))))) rfl
theorem gm_636 : (Cond.methodLink R_Ma 141 y_Cl_body : Cond) ∈ gw := gw_of (List.mem_append_right _ (List.mem_append_right _ (List.mem_append_right _ (List.mem_append_left _ (List.mem_of_getElem? (i := 138) (by decide +kernel)))))) rfl
theorem gm_637 : (Cond.methodLink R_Ma 101 y_Ma_open : Cond) ∈ gw := gw_of (List.mem_append_right _ (List.mem_append_right _ (List.mem_append_right _ (List.mem_append_left _ (List.mem_of_getElem? (i := 139) (by decide +kernel)))))) rfl
theorem gm_638 : (Cond.instanceMethod y_Ma_open : Cond) ∈ gw := gw_of (List.mem_append_right _ (List.mem_append_right _ (List.mem_append_right _ (List.mem_append_left _ (List.mem_of_getElem? (i := 141) (by decide +kernel)))))) rfl
theorem gm_639 : (Cond.code y_Ma_open b_Ma_open 3 none : Cond) ∈ gw := gw_of (List.mem_append_right _ (List.mem_append_right _ (List.mem_append_right _ (List.mem_append_left _ (List.mem_of_getElem? (i := 142) (by decide +kernel)))))) rfl
theorem gm_640 : (Cond.methodLink R_Ma 88 y_Ma_turn : Cond) ∈ gw := gw_of (List.mem_append_right _ (List.mem_append_right _ (List.mem_append_right _ (List.mem_append_left _ (List.mem_of_getElem? (i := 143) (by decide +kernel)))))) rfl
theorem gm_641 : (Cond.instanceMethod y_Ma_turn : Cond) ∈ gw := gw_of (List.mem_append_right _ (List.mem_append_right _ (List.mem_append_right _ (List.mem_append_left _ (List.mem_of_getElem? (i := 145) (by decide +kernel)))))) rfl
theorem gm_642 : (Cond.code y_Ma_turn b_Ma_turn 4 none : Cond) ∈ gw := gw_of (List.mem_append_right _ (List.mem_append_right _ (List.mem_append_right _ (List.mem_append_left _ (List.mem_of_getElem? (i := 146) (by decide +kernel)))))) rfl
theorem gm_643 : (Cond.methodLink R_Ma 105 y_Te_isMade : Cond) ∈ gw := gw_of (List.mem_append_right _ (List.mem_append_right _ (List.mem_append_right _ (List.mem_append_left _ (List.mem_of_getElem? (i := 147) (by decide +kernel)))))) rfl
theorem gm_644 : (Cond.methodLink R_Ma 112 y_Ma_build : Cond) ∈ gw := gw_of (List.mem_append_right _ (List.mem_append_right _ (List.mem_append_right _ (List.mem_append_left _ (List.mem_of_getElem? (i := 148) (by decide +kernel)))))) rfl
theorem gm_645 : (Cond.instanceMethod y_Ma_build : Cond) ∈ gw := gw_of (List.mem_append_right _ (List.mem_append_right _ (List.mem_append_right _ (List.mem_append_left _ (List.mem_of_getElem? (i := 150) (by decide +kernel)))))) rfl
theorem gm_646 : (Cond.code y_Ma_build b_Ma_build 4 none : Cond) ∈ gw := gw_of (List.mem_append_right _ (List.mem_append_right _ (List.mem_append_right _ (List.mem_append_left _ (List.mem_of_getElem? (i := 151) (by decide +kernel)))))) rfl
theorem gm_647 : (Cond.methodLink R_Ma 118 y_Va_isFull : Cond) ∈ gw := gw_of (List.mem_append_right _ (List.mem_append_right _ (List.mem_append_right _ (List.mem_append_left _ (List.mem_of_getElem? (i := 152) (by decide +kernel)))))) rfl
theorem gm_648 : (Cond.instanceMethod y_Va_isFull : Cond) ∈ gw := gw_of (List.mem_append_right _ (List.mem_append_right _ (List.mem_append_right _ (List.mem_append_left _ (List.mem_of_getElem? (i := 153) (by decide +kernel)))))) rfl
theorem gm_649 : (Cond.selects R_Va y_Va_isFull y_Va_isFull : Cond) ∈ gw := gw_of (List.mem_append_right _ (List.mem_append_right _ (List.mem_append_right _ (List.mem_append_left _ (List.mem_of_getElem? (i := 154) (by decide +kernel)))))) rfl
theorem gm_650 : (Cond.code y_Va_isFull b_Va_isFull 1 (some .boolean) : Cond) ∈ gw := gw_of (List.mem_append_right _ (List.mem_append_right _ (List.mem_append_right _ (List.mem_append_left _ (List.mem_of_getElem? (i := 155) (by decide +kernel)))))) rfl
theorem gm_651 : (Cond.methodLink R_Ma 122 y_Va_add : Cond) ∈ gw := gw_of (List.mem_append_right _ (List.mem_append_right _ (List.mem_append_right _ (List.mem_append_left _ (List.mem_of_getElem? (i := 156) (by decide +kernel)))))) rfl
theorem gm_652 : (Cond.instanceMethod y_Va_add : Cond) ∈ gw := gw_of (List.mem_append_right _ (List.mem_append_right _ (List.mem_append_right _ (List.mem_append_left _ (List.mem_of_getElem? (i := 157) (by decide +kernel)))))) rfl
theorem gm_653 : (Cond.selects R_Va y_Va_add y_Va_add : Cond) ∈ gw := gw_of (List.mem_append_right _ (List.mem_append_right _ (List.mem_append_right _ (List.mem_append_left _ (List.mem_of_getElem? (i := 158) (by decide +kernel)))))) rfl
theorem gm_654 : (Cond.code y_Va_add b_Va_add 5 (some .int) : Cond) ∈ gw := gw_of (List.mem_append_right _ (List.mem_append_right _ (List.mem_append_right _ (List.mem_append_left _ (List.mem_of_getElem? (i := 159) (by decide +kernel)))))) rfl
theorem gm_655 : (Cond.methodLink R_Va 41 y_Sg_width : Cond) ∈ gw := gw_of (List.mem_append_right _ (List.mem_append_right _ (List.mem_append_right _ (List.mem_append_left _ (List.mem_of_getElem? (i := 160) (by decide +kernel)))))) rfl
theorem gm_656 : (Cond.methodLink R_Va 51 y_Va_size : Cond) ∈ gw := gw_of (List.mem_append_right _ (List.mem_append_right _ (List.mem_append_right _ (List.mem_append_left _ (List.mem_of_getElem? (i := 161) (by decide +kernel)))))) rfl
theorem gm_657 : (Cond.instanceMethod y_Va_size : Cond) ∈ gw := gw_of (List.mem_append_right _ (List.mem_append_right _ (List.mem_append_right _ (List.mem_append_left _ (List.mem_of_getElem? (i := 162) (by decide +kernel)))))) rfl
theorem gm_658 : (Cond.selects R_Va y_Va_size y_Va_size : Cond) ∈ gw := gw_of (List.mem_append_right _ (List.mem_append_right _ (List.mem_append_right _ (List.mem_append_left _ (List.mem_of_getElem? (i := 163) (by decide +kernel)))))) rfl
theorem gm_659 : (Cond.code y_Va_size b_Va_size 2 (some .int) : Cond) ∈ gw := gw_of (List.mem_append_right _ (List.mem_append_right _ (List.mem_append_right _ (List.mem_append_left _ (List.mem_of_getElem? (i := 164) (by decide +kernel)))))) rfl
theorem gm_660 : (Cond.methodLink R_Va 49 y_Te_size : Cond) ∈ gw := gw_of (List.mem_append_right _ (List.mem_append_right _ (List.mem_append_right _ (List.mem_append_left _ (List.mem_of_getElem? (i := 165) (by decide +kernel)))))) rfl
theorem gm_661 : (Cond.instanceMethod y_Te_size : Cond) ∈ gw := gw_of (List.mem_append_right _ (List.mem_append_right _ (List.mem_append_right _ (List.mem_append_left _ (List.mem_of_getElem? (i := 166) (by decide +kernel)))))) rfl
theorem gm_662 : (Cond.selects R_Te y_Te_size y_Te_size : Cond) ∈ gw := gw_of (List.mem_append_right _ (List.mem_append_right _ (List.mem_append_right _ (List.mem_append_left _ (List.mem_of_getElem? (i := 167) (by decide +kernel)))))) rfl
theorem gm_663 : (Cond.code y_Te_size b_Te_size 2 (some .int) : Cond) ∈ gw := gw_of (List.mem_append_right _ (List.mem_append_right _ (List.mem_append_right _ (List.mem_append_left _ (List.mem_of_getElem? (i := 168) (by decide +kernel)))))) rfl
theorem gm_664 : (Cond.methodLink R_Ma 126 y_Va_size : Cond) ∈ gw := gw_of (List.mem_append_right _ (List.mem_append_right _ (List.mem_append_right _ (List.mem_append_left _ (List.mem_of_getElem? (i := 169) (by decide +kernel)))))) rfl
theorem gm_665 : (Cond.methodLink R_Ma 91 y_Ma_writeAnswer : Cond) ∈ gw := gw_of (List.mem_append_right _ (List.mem_append_right _ (List.mem_append_right _ (List.mem_append_left _ (List.mem_of_getElem? (i := 170) (by decide +kernel)))))) rfl
theorem gm_666 : (Cond.instanceMethod y_Ma_writeAnswer : Cond) ∈ gw := gw_of (List.mem_append_right _ (List.mem_append_right _ (List.mem_append_right _ (List.mem_append_left _ (List.mem_of_getElem? (i := 172) (by decide +kernel)))))) rfl
theorem gm_667 : (Cond.code y_Ma_writeAnswer b_Ma_writeAnswer 5 none : Cond) ∈ gw := gw_of (List.mem_append_right _ (List.mem_append_right _ (List.mem_append_right _ (List.mem_append_left _ (List.mem_of_getElem? (i := 173) (by decide +kernel)))))) rfl
theorem gm_668 : (Cond.methodLink R_Ma 154 y_Va_width : Cond) ∈ gw := gw_of (List.mem_append_right _ (List.mem_append_right _ (List.mem_append_right _ (List.mem_append_left _ (List.mem_of_getElem? (i := 174) (by decide +kernel)))))) rfl
theorem gm_669 : (Cond.instanceMethod y_Va_width : Cond) ∈ gw := gw_of (List.mem_append_right _ (List.mem_append_right _ (List.mem_append_right _ (List.mem_append_left _ (List.mem_of_getElem? (i := 175) (by decide +kernel)))))) rfl
theorem gm_670 : (Cond.selects R_Va y_Va_width y_Va_width : Cond) ∈ gw := gw_of (List.mem_append_right _ (List.mem_append_right _ (List.mem_append_right _ (List.mem_append_left _ (List.mem_of_getElem? (i := 176) (by decide +kernel)))))) rfl
theorem gm_671 : (Cond.code y_Va_width b_Va_width 2 (some .int) : Cond) ∈ gw := gw_of (List.mem_append_right _ (List.mem_append_right _ (List.mem_append_right _ (List.mem_append_left _ (List.mem_of_getElem? (i := 177) (by decide +kernel)))))) rfl
theorem gm_672 : (Cond.methodLink R_Va 39 y_Va_maker : Cond) ∈ gw := gw_of (List.mem_append_right _ (List.mem_append_right _ (List.mem_append_right _ (List.mem_append_left _ (List.mem_of_getElem? (i := 178) (by decide +kernel)))))) rfl
theorem gm_673 : (Cond.methodLink R_La 95 y_La_answer : Cond) ∈ gw := gw_of (List.mem_append_right _ (List.mem_append_right _ (List.mem_append_right _ (List.mem_append_left _ (List.mem_of_getElem? (i := 179) (by decide +kernel)))))) rfl
theorem gm_674 : (Cond.static y_La_answer : Cond) ∈ gw := gw_of (List.mem_append_right _ (List.mem_append_right _ (List.mem_append_right _ (List.mem_append_left _ (List.mem_of_getElem? (i := 180) (by decide +kernel)))))) rfl
theorem gm_675 : (Cond.classLink R_La 43 "java/lang/IndexOutOfBoundsException" : Cond) ∈ gw := gw_of (List.mem_append_right _ (List.mem_append_right _ (List.mem_append_right _ (List.mem_append_left _ (List.mem_of_getElem? (i := 182) (by decide +kernel)))))) rfl
theorem gm_676 : (Cond.methodLink R_La 40 y_Fu_answer : Cond) ∈ gw := gw_of (List.mem_append_right _ (List.mem_append_right _ (List.mem_append_right _ (List.mem_append_left _ (List.mem_of_getElem? (i := 183) (by decide +kernel)))))) rfl
theorem gm_677 : (Cond.instanceMethod y_Fu_answer : Cond) ∈ gw := gw_of (List.mem_append_right _ (List.mem_append_right _ (List.mem_append_right _ (List.mem_append_left _ (List.mem_of_getElem? (i := 184) (by decide +kernel)))))) rfl
theorem gm_678 : (Cond.selects R_Fu y_Fu_answer y_Fu_answer : Cond) ∈ gw := gw_of (List.mem_append_right _ (List.mem_append_right _ (List.mem_append_right _ (List.mem_append_left _ (List.mem_of_getElem? (i := 185) (by decide +kernel)))))) rfl
theorem gm_679 : (Cond.code y_Fu_answer b_Fu_answer 2 (some .int) : Cond) ∈ gw := gw_of (List.mem_append_right _ (List.mem_append_right _ (List.mem_append_right _ (List.mem_append_left _ (List.mem_of_getElem? (i := 186) (by decide +kernel)))))) rfl
theorem gm_680 : (Cond.methodLink R_Fu 191 y_Ma_answerSize : Cond) ∈ gw := gw_of (List.mem_append_right _ (List.mem_append_right _ (List.mem_append_right _ (List.mem_append_left _ (List.mem_of_getElem? (i := 187) (by decide +kernel)))))) rfl
theorem gm_681 : (Cond.instanceMethod y_Ma_answerSize : Cond) ∈ gw := gw_of (List.mem_append_right _ (List.mem_append_right _ (List.mem_append_right _ (List.mem_append_left _ (List.mem_of_getElem? (i := 188) (by decide +kernel)))))) rfl
theorem gm_682 : (Cond.selects R_Ma y_Ma_answerSize y_Ma_answerSize : Cond) ∈ gw := gw_of (List.mem_append_right _ (List.mem_append_right _ (List.mem_append_right _ (List.mem_append_left _ (List.mem_of_getElem? (i := 189) (by decide +kernel)))))) rfl
theorem gm_683 : (Cond.code y_Ma_answerSize b_Ma_answerSize 1 (some .int) : Cond) ∈ gw := gw_of (List.mem_append_right _ (List.mem_append_right _ (List.mem_append_right _ (List.mem_append_left _ (List.mem_of_getElem? (i := 190) (by decide +kernel)))))) rfl
theorem gm_684 : (Cond.classLink R_Fu 194 "java/lang/IndexOutOfBoundsException" : Cond) ∈ gw := gw_of (List.mem_append_right _ (List.mem_append_right _ (List.mem_append_right _ (List.mem_append_left _ (List.mem_of_getElem? (i := 191) (by decide +kernel)))))) rfl
theorem gm_685 : (Cond.methodLink R_Fu 199 y_Ma_answerAt : Cond) ∈ gw := gw_of (List.mem_append_right _ (List.mem_append_right _ (List.mem_append_right _ (List.mem_append_left _ (List.mem_of_getElem? (i := 207) (by decide +kernel)))))) rfl
theorem gm_686 : (Cond.instanceMethod y_Ma_answerAt : Cond) ∈ gw := gw_of (List.mem_append_right _ (List.mem_append_right _ (List.mem_append_right _ (List.mem_append_left _ (List.mem_of_getElem? (i := 208) (by decide +kernel)))))) rfl
theorem gm_687 : (Cond.selects R_Ma y_Ma_answerAt y_Ma_answerAt : Cond) ∈ gw := gw_of (List.mem_append_right _ (List.mem_append_right _ (List.mem_append_right _ (List.mem_append_left _ (List.mem_of_getElem? (i := 209) (by decide +kernel)))))) rfl
theorem gm_688 : (Cond.code y_Ma_answerAt b_Ma_answerAt 2 (some .int) : Cond) ∈ gw := gw_of (List.mem_append_right _ (List.mem_append_right _ (List.mem_append_right _ (List.mem_append_left _ (List.mem_of_getElem? (i := 210) (by decide +kernel)))))) rfl
theorem gm_689 : (Cond.classLink R_La 46 R_Mo : Cond) ∈ gw := gw_of (List.mem_append_right _ (List.mem_append_right _ (List.mem_append_right _ (List.mem_append_left _ (List.mem_of_getElem? (i := 211) (by decide +kernel)))))) rfl
theorem gm_690 : (Cond.instantiable R_Mo 45 : Cond) ∈ gw := gw_of (List.mem_append_right _ (List.mem_append_right _ (List.mem_append_right _ (List.mem_append_left _ (List.mem_of_getElem? (i := 212) (by decide +kernel)))))) rfl
theorem gm_691 : (Cond.methodLink R_La 48 y_Mo_init : Cond) ∈ gw := gw_of (List.mem_append_right _ (List.mem_append_right _ (List.mem_append_right _ (List.mem_append_left _ (List.mem_of_getElem? (i := 213) (by decide +kernel)))))) rfl
theorem gm_692 : (Cond.instanceMethod y_Mo_init : Cond) ∈ gw := gw_of (List.mem_append_right _ (List.mem_append_right _ (List.mem_append_right _ (List.mem_append_left _ (List.mem_of_getElem? (i := 214) (by decide +kernel)))))) rfl
theorem gm_693 : (Cond.code y_Mo_init b_Mo_init 1 none : Cond) ∈ gw := gw_of (List.mem_append_right _ (List.mem_append_right _ (List.mem_append_right _ (List.mem_append_left _ (List.mem_of_getElem? (i := 215) (by decide +kernel)))))) rfl
theorem gm_694 : (Cond.methodLink R_Mo 1 objectInit : Cond) ∈ gw := gw_of (List.mem_append_right _ (List.mem_append_right _ (List.mem_append_right _ (List.mem_append_left _ (List.mem_of_getElem? (i := 216) (by decide +kernel)))))) rfl
theorem gm_695 : (Cond.fieldLink R_Mo 116 "SureFunctionsModel" "constructors" "I" : Cond) ∈ gw := gw_of (List.mem_append_right _ (List.mem_append_right _ (List.mem_append_right _ (List.mem_append_left _ (List.mem_of_getElem? (i := 217) (by decide +kernel)))))) rfl
theorem gm_696 : (Cond.fieldLink R_Mo 7 "SureFunctionsModel" "makes" "[I" : Cond) ∈ gw := gw_of (List.mem_append_right _ (List.mem_append_right _ (List.mem_append_right _ (List.mem_append_left _ (List.mem_of_getElem? (i := 218) (by decide +kernel)))))) rfl
theorem gm_697 : (Cond.fieldLink R_Mo 13 "SureFunctionsModel" "parts" "[I" : Cond) ∈ gw := gw_of (List.mem_append_right _ (List.mem_append_right _ (List.mem_append_right _ (List.mem_append_left _ (List.mem_of_getElem? (i := 219) (by decide +kernel)))))) rfl
theorem gm_698 : (Cond.fieldLink R_Mo 16 "SureFunctionsModel" "partType" "[I" : Cond) ∈ gw := gw_of (List.mem_append_right _ (List.mem_append_right _ (List.mem_append_right _ (List.mem_append_left _ (List.mem_of_getElem? (i := 220) (by decide +kernel)))))) rfl
theorem gm_699 : (Cond.fieldLink R_Mo 127 "SureFunctionsModel" "functions" "I" : Cond) ∈ gw := gw_of (List.mem_append_right _ (List.mem_append_right _ (List.mem_append_right _ (List.mem_append_left _ (List.mem_of_getElem? (i := 221) (by decide +kernel)))))) rfl
theorem gm_700 : (Cond.fieldLink R_Mo 19 "SureFunctionsModel" "answers" "[I" : Cond) ∈ gw := gw_of (List.mem_append_right _ (List.mem_append_right _ (List.mem_append_right _ (List.mem_append_left _ (List.mem_of_getElem? (i := 222) (by decide +kernel)))))) rfl
theorem gm_701 : (Cond.fieldLink R_Mo 22 "SureFunctionsModel" "arguments" "[I" : Cond) ∈ gw := gw_of (List.mem_append_right _ (List.mem_append_right _ (List.mem_append_right _ (List.mem_append_left _ (List.mem_of_getElem? (i := 223) (by decide +kernel)))))) rfl
theorem gm_702 : (Cond.fieldLink R_Mo 25 "SureFunctionsModel" "argumentType" "[I" : Cond) ∈ gw := gw_of (List.mem_append_right _ (List.mem_append_right _ (List.mem_append_right _ (List.mem_append_left _ (List.mem_of_getElem? (i := 224) (by decide +kernel)))))) rfl
theorem gm_703 : (Cond.fieldLink R_Mo 130 "SureFunctionsModel" "terms" "I" : Cond) ∈ gw := gw_of (List.mem_append_right _ (List.mem_append_right _ (List.mem_append_right _ (List.mem_append_left _ (List.mem_of_getElem? (i := 225) (by decide +kernel)))))) rfl
theorem gm_704 : (Cond.fieldLink R_Mo 28 "SureFunctionsModel" "head" "[I" : Cond) ∈ gw := gw_of (List.mem_append_right _ (List.mem_append_right _ (List.mem_append_right _ (List.mem_append_left _ (List.mem_of_getElem? (i := 226) (by decide +kernel)))))) rfl
theorem gm_705 : (Cond.fieldLink R_Mo 31 "SureFunctionsModel" "below" "[I" : Cond) ∈ gw := gw_of (List.mem_append_right _ (List.mem_append_right _ (List.mem_append_right _ (List.mem_append_left _ (List.mem_of_getElem? (i := 227) (by decide +kernel)))))) rfl
theorem gm_706 : (Cond.fieldLink R_Mo 34 "SureFunctionsModel" "height" "[I" : Cond) ∈ gw := gw_of (List.mem_append_right _ (List.mem_append_right _ (List.mem_append_right _ (List.mem_append_left _ (List.mem_of_getElem? (i := 228) (by decide +kernel)))))) rfl
theorem gm_707 : (Cond.fieldLink R_Mo 37 "SureFunctionsModel" "size" "[I" : Cond) ∈ gw := gw_of (List.mem_append_right _ (List.mem_append_right _ (List.mem_append_right _ (List.mem_append_left _ (List.mem_of_getElem? (i := 229) (by decide +kernel)))))) rfl
theorem gm_708 : (Cond.fieldLink R_Mo 166 "SureFunctionsModel" "clauses" "I" : Cond) ∈ gw := gw_of (List.mem_append_right _ (List.mem_append_right _ (List.mem_append_right _ (List.mem_append_left _ (List.mem_of_getElem? (i := 230) (by decide +kernel)))))) rfl
theorem gm_709 : (Cond.fieldLink R_Mo 40 "SureFunctionsModel" "clauseOf" "[I" : Cond) ∈ gw := gw_of (List.mem_append_right _ (List.mem_append_right _ (List.mem_append_right _ (List.mem_append_left _ (List.mem_of_getElem? (i := 231) (by decide +kernel)))))) rfl
theorem gm_710 : (Cond.fieldLink R_Mo 43 "SureFunctionsModel" "pattern" "[I" : Cond) ∈ gw := gw_of (List.mem_append_right _ (List.mem_append_right _ (List.mem_append_right _ (List.mem_append_left _ (List.mem_of_getElem? (i := 232) (by decide +kernel)))))) rfl
theorem gm_711 : (Cond.fieldLink R_Mo 46 "SureFunctionsModel" "body" "[I" : Cond) ∈ gw := gw_of (List.mem_append_right _ (List.mem_append_right _ (List.mem_append_right _ (List.mem_append_left _ (List.mem_of_getElem? (i := 233) (by decide +kernel)))))) rfl
theorem gm_712 : (Cond.fieldLink R_Mo 123 "SureFunctionsModel" "good" "Z" : Cond) ∈ gw := gw_of (List.mem_append_right _ (List.mem_append_right _ (List.mem_append_right _ (List.mem_append_left _ (List.mem_of_getElem? (i := 234) (by decide +kernel)))))) rfl
theorem gm_713 : (Cond.fieldLink R_Mo 192 "SureFunctionsModel" "graphs" "I" : Cond) ∈ gw := gw_of (List.mem_append_right _ (List.mem_append_right _ (List.mem_append_right _ (List.mem_append_left _ (List.mem_of_getElem? (i := 235) (by decide +kernel)))))) rfl
theorem gm_714 : (Cond.fieldLink R_Mo 49 "SureFunctionsModel" "graphFrom" "[I" : Cond) ∈ gw := gw_of (List.mem_append_right _ (List.mem_append_right _ (List.mem_append_right _ (List.mem_append_left _ (List.mem_of_getElem? (i := 236) (by decide +kernel)))))) rfl
theorem gm_715 : (Cond.fieldLink R_Mo 52 "SureFunctionsModel" "graphTo" "[I" : Cond) ∈ gw := gw_of (List.mem_append_right _ (List.mem_append_right _ (List.mem_append_right _ (List.mem_append_left _ (List.mem_of_getElem? (i := 237) (by decide +kernel)))))) rfl
theorem gm_716 : (Cond.fieldLink R_Mo 55 "SureFunctionsModel" "graphArcs" "[I" : Cond) ∈ gw := gw_of (List.mem_append_right _ (List.mem_append_right _ (List.mem_append_right _ (List.mem_append_left _ (List.mem_of_getElem? (i := 238) (by decide +kernel)))))) rfl
theorem gm_717 : (Cond.fieldLink R_Mo 141 "SureFunctionsModel" "open" "I" : Cond) ∈ gw := gw_of (List.mem_append_right _ (List.mem_append_right _ (List.mem_append_right _ (List.mem_append_left _ (List.mem_of_getElem? (i := 239) (by decide +kernel)))))) rfl
theorem gm_718 : (Cond.fieldLink R_Mo 58 "SureFunctionsModel" "first" "[I" : Cond) ∈ gw := gw_of (List.mem_append_right _ (List.mem_append_right _ (List.mem_append_right _ (List.mem_append_right _ (List.mem_append_left _ (List.mem_of_getElem? (i := 0) (by decide +kernel))))))) rfl
theorem gm_719 : (Cond.fieldLink R_Mo 61 "SureFunctionsModel" "second" "[I" : Cond) ∈ gw := gw_of (List.mem_append_right _ (List.mem_append_right _ (List.mem_append_right _ (List.mem_append_right _ (List.mem_append_left _ (List.mem_of_getElem? (i := 1) (by decide +kernel))))))) rfl
theorem gm_720 : (Cond.fieldLink R_Mo 64 "SureFunctionsModel" "seen" "[Z" : Cond) ∈ gw := gw_of (List.mem_append_right _ (List.mem_append_right _ (List.mem_append_right _ (List.mem_append_right _ (List.mem_append_left _ (List.mem_of_getElem? (i := 2) (by decide +kernel))))))) rfl
theorem gm_721 : (Cond.fieldLink R_Mo 68 "SureFunctionsModel" "typeOf" "[I" : Cond) ∈ gw := gw_of (List.mem_append_right _ (List.mem_append_right _ (List.mem_append_right _ (List.mem_append_right _ (List.mem_append_left _ (List.mem_of_getElem? (i := 3) (by decide +kernel))))))) rfl
theorem gm_722 : (Cond.fieldLink R_Mo 71 "SureFunctionsModel" "inhabited" "[Z" : Cond) ∈ gw := gw_of (List.mem_append_right _ (List.mem_append_right _ (List.mem_append_right _ (List.mem_append_right _ (List.mem_append_left _ (List.mem_of_getElem? (i := 4) (by decide +kernel))))))) rfl
theorem gm_723 : (Cond.fieldLink R_Mo 74 "SureFunctionsModel" "row" "[I" : Cond) ∈ gw := gw_of (List.mem_append_right _ (List.mem_append_right _ (List.mem_append_right _ (List.mem_append_right _ (List.mem_append_left _ (List.mem_of_getElem? (i := 5) (by decide +kernel))))))) rfl
theorem gm_724 : (Cond.fieldLink R_Mo 237 "SureFunctionsModel" "values" "I" : Cond) ∈ gw := gw_of (List.mem_append_right _ (List.mem_append_right _ (List.mem_append_right _ (List.mem_append_right _ (List.mem_append_left _ (List.mem_of_getElem? (i := 6) (by decide +kernel))))))) rfl
theorem gm_725 : (Cond.fieldLink R_Mo 77 "SureFunctionsModel" "made" "[I" : Cond) ∈ gw := gw_of (List.mem_append_right _ (List.mem_append_right _ (List.mem_append_right _ (List.mem_append_right _ (List.mem_append_left _ (List.mem_of_getElem? (i := 7) (by decide +kernel))))))) rfl
theorem gm_726 : (Cond.fieldLink R_Mo 80 "SureFunctionsModel" "child" "[I" : Cond) ∈ gw := gw_of (List.mem_append_right _ (List.mem_append_right _ (List.mem_append_right _ (List.mem_append_right _ (List.mem_append_left _ (List.mem_of_getElem? (i := 8) (by decide +kernel))))))) rfl
theorem gm_727 : (Cond.fieldLink R_Mo 83 "SureFunctionsModel" "weight" "[I" : Cond) ∈ gw := gw_of (List.mem_append_right _ (List.mem_append_right _ (List.mem_append_right _ (List.mem_append_right _ (List.mem_append_left _ (List.mem_of_getElem? (i := 9) (by decide +kernel))))))) rfl
theorem gm_728 : (Cond.fieldLink R_Mo 256 "SureFunctionsModel" "built" "I" : Cond) ∈ gw := gw_of (List.mem_append_right _ (List.mem_append_right _ (List.mem_append_right _ (List.mem_append_right _ (List.mem_append_left _ (List.mem_of_getElem? (i := 10) (by decide +kernel))))))) rfl
theorem gm_729 : (Cond.fieldLink R_Mo 243 "SureFunctionsModel" "steps" "I" : Cond) ∈ gw := gw_of (List.mem_append_right _ (List.mem_append_right _ (List.mem_append_right _ (List.mem_append_right _ (List.mem_append_left _ (List.mem_of_getElem? (i := 11) (by decide +kernel))))))) rfl
theorem gm_730 : (Cond.fieldLink R_Mo 231 "SureFunctionsModel" "todo" "I" : Cond) ∈ gw := gw_of (List.mem_append_right _ (List.mem_append_right _ (List.mem_append_right _ (List.mem_append_right _ (List.mem_append_left _ (List.mem_of_getElem? (i := 12) (by decide +kernel))))))) rfl
theorem gm_731 : (Cond.fieldLink R_Mo 86 "SureFunctionsModel" "todoTerm" "[I" : Cond) ∈ gw := gw_of (List.mem_append_right _ (List.mem_append_right _ (List.mem_append_right _ (List.mem_append_right _ (List.mem_append_left _ (List.mem_of_getElem? (i := 13) (by decide +kernel))))))) rfl
theorem gm_732 : (Cond.fieldLink R_Mo 89 "SureFunctionsModel" "todoFrame" "[I" : Cond) ∈ gw := gw_of (List.mem_append_right _ (List.mem_append_right _ (List.mem_append_right _ (List.mem_append_right _ (List.mem_append_left _ (List.mem_of_getElem? (i := 14) (by decide +kernel))))))) rfl
theorem gm_733 : (Cond.fieldLink R_Mo 234 "SureFunctionsModel" "held" "I" : Cond) ∈ gw := gw_of (List.mem_append_right _ (List.mem_append_right _ (List.mem_append_right _ (List.mem_append_right _ (List.mem_append_left _ (List.mem_of_getElem? (i := 15) (by decide +kernel))))))) rfl
theorem gm_734 : (Cond.fieldLink R_Mo 92 "SureFunctionsModel" "value" "[I" : Cond) ∈ gw := gw_of (List.mem_append_right _ (List.mem_append_right _ (List.mem_append_right _ (List.mem_append_right _ (List.mem_append_left _ (List.mem_of_getElem? (i := 16) (by decide +kernel))))))) rfl
theorem gm_735 : (Cond.fieldLink R_Mo 95 "SureFunctionsModel" "binding" "[I" : Cond) ∈ gw := gw_of (List.mem_append_right _ (List.mem_append_right _ (List.mem_append_right _ (List.mem_append_right _ (List.mem_append_left _ (List.mem_of_getElem? (i := 17) (by decide +kernel))))))) rfl
theorem gm_736 : (Cond.fieldLink R_Mo 98 "SureFunctionsModel" "given" "[I" : Cond) ∈ gw := gw_of (List.mem_append_right _ (List.mem_append_right _ (List.mem_append_right _ (List.mem_append_right _ (List.mem_append_left _ (List.mem_of_getElem? (i := 18) (by decide +kernel))))))) rfl
theorem gm_737 : (Cond.fieldLink R_Mo 262 "SureFunctionsModel" "answerSize" "I" : Cond) ∈ gw := gw_of (List.mem_append_right _ (List.mem_append_right _ (List.mem_append_right _ (List.mem_append_right _ (List.mem_append_left _ (List.mem_of_getElem? (i := 19) (by decide +kernel))))))) rfl
theorem gm_738 : (Cond.fieldLink R_Mo 101 "SureFunctionsModel" "answer" "[I" : Cond) ∈ gw := gw_of (List.mem_append_right _ (List.mem_append_right _ (List.mem_append_right _ (List.mem_append_right _ (List.mem_append_left _ (List.mem_of_getElem? (i := 20) (by decide +kernel))))))) rfl
theorem gm_739 : (Cond.fieldLink R_Mo 104 "SureFunctionsModel" "thrown" "I" : Cond) ∈ gw := gw_of (List.mem_append_right _ (List.mem_append_right _ (List.mem_append_right _ (List.mem_append_right _ (List.mem_append_left _ (List.mem_of_getElem? (i := 21) (by decide +kernel))))))) rfl
theorem gm_740 : (Cond.lays R_Mo "SureFunctionsModel" "constructors" "I" : Cond) ∈ gw := gw_of (List.mem_append_right _ (List.mem_append_right _ (List.mem_append_right _ (List.mem_append_right _ (List.mem_append_left _ (List.mem_of_getElem? (i := 22) (by decide +kernel))))))) rfl
theorem gm_741 : (Cond.laysFinal R_Mo "SureFunctionsModel" "makes" "[I" : Cond) ∈ gw := gw_of (List.mem_append_right _ (List.mem_append_right _ (List.mem_append_right _ (List.mem_append_right _ (List.mem_append_left _ (List.mem_of_getElem? (i := 24) (by decide +kernel))))))) rfl
theorem gm_742 : (Cond.laysFinal R_Mo "SureFunctionsModel" "parts" "[I" : Cond) ∈ gw := gw_of (List.mem_append_right _ (List.mem_append_right _ (List.mem_append_right _ (List.mem_append_right _ (List.mem_append_left _ (List.mem_of_getElem? (i := 26) (by decide +kernel))))))) rfl
theorem gm_743 : (Cond.laysFinal R_Mo "SureFunctionsModel" "partType" "[I" : Cond) ∈ gw := gw_of (List.mem_append_right _ (List.mem_append_right _ (List.mem_append_right _ (List.mem_append_right _ (List.mem_append_left _ (List.mem_of_getElem? (i := 28) (by decide +kernel))))))) rfl
theorem gm_744 : (Cond.lays R_Mo "SureFunctionsModel" "functions" "I" : Cond) ∈ gw := gw_of (List.mem_append_right _ (List.mem_append_right _ (List.mem_append_right _ (List.mem_append_right _ (List.mem_append_left _ (List.mem_of_getElem? (i := 30) (by decide +kernel))))))) rfl
theorem gm_745 : (Cond.laysFinal R_Mo "SureFunctionsModel" "answers" "[I" : Cond) ∈ gw := gw_of (List.mem_append_right _ (List.mem_append_right _ (List.mem_append_right _ (List.mem_append_right _ (List.mem_append_left _ (List.mem_of_getElem? (i := 32) (by decide +kernel))))))) rfl
theorem gm_746 : (Cond.laysFinal R_Mo "SureFunctionsModel" "arguments" "[I" : Cond) ∈ gw := gw_of (List.mem_append_right _ (List.mem_append_right _ (List.mem_append_right _ (List.mem_append_right _ (List.mem_append_left _ (List.mem_of_getElem? (i := 34) (by decide +kernel))))))) rfl
theorem gm_747 : (Cond.laysFinal R_Mo "SureFunctionsModel" "argumentType" "[I" : Cond) ∈ gw := gw_of (List.mem_append_right _ (List.mem_append_right _ (List.mem_append_right _ (List.mem_append_right _ (List.mem_append_left _ (List.mem_of_getElem? (i := 36) (by decide +kernel))))))) rfl
theorem gm_748 : (Cond.lays R_Mo "SureFunctionsModel" "terms" "I" : Cond) ∈ gw := gw_of (List.mem_append_right _ (List.mem_append_right _ (List.mem_append_right _ (List.mem_append_right _ (List.mem_append_left _ (List.mem_of_getElem? (i := 38) (by decide +kernel))))))) rfl
theorem gm_749 : (Cond.laysFinal R_Mo "SureFunctionsModel" "head" "[I" : Cond) ∈ gw := gw_of (List.mem_append_right _ (List.mem_append_right _ (List.mem_append_right _ (List.mem_append_right _ (List.mem_append_left _ (List.mem_of_getElem? (i := 40) (by decide +kernel))))))) rfl
theorem gm_750 : (Cond.laysFinal R_Mo "SureFunctionsModel" "below" "[I" : Cond) ∈ gw := gw_of (List.mem_append_right _ (List.mem_append_right _ (List.mem_append_right _ (List.mem_append_right _ (List.mem_append_left _ (List.mem_of_getElem? (i := 42) (by decide +kernel))))))) rfl
theorem gm_751 : (Cond.laysFinal R_Mo "SureFunctionsModel" "height" "[I" : Cond) ∈ gw := gw_of (List.mem_append_right _ (List.mem_append_right _ (List.mem_append_right _ (List.mem_append_right _ (List.mem_append_left _ (List.mem_of_getElem? (i := 44) (by decide +kernel))))))) rfl
theorem gm_752 : (Cond.laysFinal R_Mo "SureFunctionsModel" "size" "[I" : Cond) ∈ gw := gw_of (List.mem_append_right _ (List.mem_append_right _ (List.mem_append_right _ (List.mem_append_right _ (List.mem_append_left _ (List.mem_of_getElem? (i := 46) (by decide +kernel))))))) rfl
theorem gm_753 : (Cond.lays R_Mo "SureFunctionsModel" "clauses" "I" : Cond) ∈ gw := gw_of (List.mem_append_right _ (List.mem_append_right _ (List.mem_append_right _ (List.mem_append_right _ (List.mem_append_left _ (List.mem_of_getElem? (i := 48) (by decide +kernel))))))) rfl
theorem gm_754 : (Cond.laysFinal R_Mo "SureFunctionsModel" "clauseOf" "[I" : Cond) ∈ gw := gw_of (List.mem_append_right _ (List.mem_append_right _ (List.mem_append_right _ (List.mem_append_right _ (List.mem_append_left _ (List.mem_of_getElem? (i := 50) (by decide +kernel))))))) rfl
theorem gm_755 : (Cond.laysFinal R_Mo "SureFunctionsModel" "pattern" "[I" : Cond) ∈ gw := gw_of (List.mem_append_right _ (List.mem_append_right _ (List.mem_append_right _ (List.mem_append_right _ (List.mem_append_left _ (List.mem_of_getElem? (i := 52) (by decide +kernel))))))) rfl
theorem gm_756 : (Cond.laysFinal R_Mo "SureFunctionsModel" "body" "[I" : Cond) ∈ gw := gw_of (List.mem_append_right _ (List.mem_append_right _ (List.mem_append_right _ (List.mem_append_right _ (List.mem_append_left _ (List.mem_of_getElem? (i := 54) (by decide +kernel))))))) rfl
theorem gm_757 : (Cond.lays R_Mo "SureFunctionsModel" "good" "Z" : Cond) ∈ gw := gw_of (List.mem_append_right _ (List.mem_append_right _ (List.mem_append_right _ (List.mem_append_right _ (List.mem_append_left _ (List.mem_of_getElem? (i := 56) (by decide +kernel))))))) rfl
theorem gm_758 : (Cond.lays R_Mo "SureFunctionsModel" "graphs" "I" : Cond) ∈ gw := gw_of (List.mem_append_right _ (List.mem_append_right _ (List.mem_append_right _ (List.mem_append_right _ (List.mem_append_left _ (List.mem_of_getElem? (i := 58) (by decide +kernel))))))) rfl
theorem gm_759 : (Cond.laysFinal R_Mo "SureFunctionsModel" "graphFrom" "[I" : Cond) ∈ gw := gw_of (List.mem_append_right _ (List.mem_append_right _ (List.mem_append_right _ (List.mem_append_right _ (List.mem_append_left _ (List.mem_of_getElem? (i := 60) (by decide +kernel))))))) rfl
theorem gm_760 : (Cond.laysFinal R_Mo "SureFunctionsModel" "graphTo" "[I" : Cond) ∈ gw := gw_of (List.mem_append_right _ (List.mem_append_right _ (List.mem_append_right _ (List.mem_append_right _ (List.mem_append_left _ (List.mem_of_getElem? (i := 62) (by decide +kernel))))))) rfl
theorem gm_761 : (Cond.laysFinal R_Mo "SureFunctionsModel" "graphArcs" "[I" : Cond) ∈ gw := gw_of (List.mem_append_right _ (List.mem_append_right _ (List.mem_append_right _ (List.mem_append_right _ (List.mem_append_left _ (List.mem_of_getElem? (i := 64) (by decide +kernel))))))) rfl
theorem gm_762 : (Cond.lays R_Mo "SureFunctionsModel" "open" "I" : Cond) ∈ gw := gw_of (List.mem_append_right _ (List.mem_append_right _ (List.mem_append_right _ (List.mem_append_right _ (List.mem_append_left _ (List.mem_of_getElem? (i := 66) (by decide +kernel))))))) rfl
theorem gm_763 : (Cond.laysFinal R_Mo "SureFunctionsModel" "first" "[I" : Cond) ∈ gw := gw_of (List.mem_append_right _ (List.mem_append_right _ (List.mem_append_right _ (List.mem_append_right _ (List.mem_append_left _ (List.mem_of_getElem? (i := 68) (by decide +kernel))))))) rfl
theorem gm_764 : (Cond.laysFinal R_Mo "SureFunctionsModel" "second" "[I" : Cond) ∈ gw := gw_of (List.mem_append_right _ (List.mem_append_right _ (List.mem_append_right _ (List.mem_append_right _ (List.mem_append_left _ (List.mem_of_getElem? (i := 70) (by decide +kernel))))))) rfl
theorem gm_765 : (Cond.laysFinal R_Mo "SureFunctionsModel" "seen" "[Z" : Cond) ∈ gw := gw_of (List.mem_append_right _ (List.mem_append_right _ (List.mem_append_right _ (List.mem_append_right _ (List.mem_append_left _ (List.mem_of_getElem? (i := 72) (by decide +kernel))))))) rfl
theorem gm_766 : (Cond.laysFinal R_Mo "SureFunctionsModel" "typeOf" "[I" : Cond) ∈ gw := gw_of (List.mem_append_right _ (List.mem_append_right _ (List.mem_append_right _ (List.mem_append_right _ (List.mem_append_left _ (List.mem_of_getElem? (i := 74) (by decide +kernel))))))) rfl
theorem gm_767 : (Cond.laysFinal R_Mo "SureFunctionsModel" "inhabited" "[Z" : Cond) ∈ gw := gw_of (List.mem_append_right _ (List.mem_append_right _ (List.mem_append_right _ (List.mem_append_right _ (List.mem_append_left _ (List.mem_of_getElem? (i := 76) (by decide +kernel))))))) rfl
theorem gm_768 : (Cond.laysFinal R_Mo "SureFunctionsModel" "row" "[I" : Cond) ∈ gw := gw_of (List.mem_append_right _ (List.mem_append_right _ (List.mem_append_right _ (List.mem_append_right _ (List.mem_append_left _ (List.mem_of_getElem? (i := 78) (by decide +kernel))))))) rfl
theorem gm_769 : (Cond.lays R_Mo "SureFunctionsModel" "values" "I" : Cond) ∈ gw := gw_of (List.mem_append_right _ (List.mem_append_right _ (List.mem_append_right _ (List.mem_append_right _ (List.mem_append_left _ (List.mem_of_getElem? (i := 80) (by decide +kernel))))))) rfl
theorem gm_770 : (Cond.laysFinal R_Mo "SureFunctionsModel" "made" "[I" : Cond) ∈ gw := gw_of (List.mem_append_right _ (List.mem_append_right _ (List.mem_append_right _ (List.mem_append_right _ (List.mem_append_left _ (List.mem_of_getElem? (i := 82) (by decide +kernel))))))) rfl
theorem gm_771 : (Cond.laysFinal R_Mo "SureFunctionsModel" "child" "[I" : Cond) ∈ gw := gw_of (List.mem_append_right _ (List.mem_append_right _ (List.mem_append_right _ (List.mem_append_right _ (List.mem_append_left _ (List.mem_of_getElem? (i := 84) (by decide +kernel))))))) rfl
theorem gm_772 : (Cond.laysFinal R_Mo "SureFunctionsModel" "weight" "[I" : Cond) ∈ gw := gw_of (List.mem_append_right _ (List.mem_append_right _ (List.mem_append_right _ (List.mem_append_right _ (List.mem_append_left _ (List.mem_of_getElem? (i := 86) (by decide +kernel))))))) rfl
theorem gm_773 : (Cond.lays R_Mo "SureFunctionsModel" "built" "I" : Cond) ∈ gw := gw_of (List.mem_append_right _ (List.mem_append_right _ (List.mem_append_right _ (List.mem_append_right _ (List.mem_append_left _ (List.mem_of_getElem? (i := 88) (by decide +kernel))))))) rfl
theorem gm_774 : (Cond.lays R_Mo "SureFunctionsModel" "steps" "I" : Cond) ∈ gw := gw_of (List.mem_append_right _ (List.mem_append_right _ (List.mem_append_right _ (List.mem_append_right _ (List.mem_append_left _ (List.mem_of_getElem? (i := 90) (by decide +kernel))))))) rfl
theorem gm_775 : (Cond.lays R_Mo "SureFunctionsModel" "todo" "I" : Cond) ∈ gw := gw_of (List.mem_append_right _ (List.mem_append_right _ (List.mem_append_right _ (List.mem_append_right _ (List.mem_append_left _ (List.mem_of_getElem? (i := 92) (by decide +kernel))))))) rfl
theorem gm_776 : (Cond.laysFinal R_Mo "SureFunctionsModel" "todoTerm" "[I" : Cond) ∈ gw := gw_of (List.mem_append_right _ (List.mem_append_right _ (List.mem_append_right _ (List.mem_append_right _ (List.mem_append_left _ (List.mem_of_getElem? (i := 94) (by decide +kernel))))))) rfl
theorem gm_777 : (Cond.laysFinal R_Mo "SureFunctionsModel" "todoFrame" "[I" : Cond) ∈ gw := gw_of (List.mem_append_right _ (List.mem_append_right _ (List.mem_append_right _ (List.mem_append_right _ (List.mem_append_left _ (List.mem_of_getElem? (i := 96) (by decide +kernel))))))) rfl
theorem gm_778 : (Cond.lays R_Mo "SureFunctionsModel" "held" "I" : Cond) ∈ gw := gw_of (List.mem_append_right _ (List.mem_append_right _ (List.mem_append_right _ (List.mem_append_right _ (List.mem_append_left _ (List.mem_of_getElem? (i := 98) (by decide +kernel))))))) rfl
theorem gm_779 : (Cond.laysFinal R_Mo "SureFunctionsModel" "value" "[I" : Cond) ∈ gw := gw_of (List.mem_append_right _ (List.mem_append_right _ (List.mem_append_right _ (List.mem_append_right _ (List.mem_append_left _ (List.mem_of_getElem? (i := 100) (by decide +kernel))))))) rfl
theorem gm_780 : (Cond.laysFinal R_Mo "SureFunctionsModel" "binding" "[I" : Cond) ∈ gw := gw_of (List.mem_append_right _ (List.mem_append_right _ (List.mem_append_right _ (List.mem_append_right _ (List.mem_append_left _ (List.mem_of_getElem? (i := 102) (by decide +kernel))))))) rfl
theorem gm_781 : (Cond.laysFinal R_Mo "SureFunctionsModel" "given" "[I" : Cond) ∈ gw := gw_of (List.mem_append_right _ (List.mem_append_right _ (List.mem_append_right _ (List.mem_append_right _ (List.mem_append_left _ (List.mem_of_getElem? (i := 104) (by decide +kernel))))))) rfl
theorem gm_782 : (Cond.lays R_Mo "SureFunctionsModel" "answerSize" "I" : Cond) ∈ gw := gw_of (List.mem_append_right _ (List.mem_append_right _ (List.mem_append_right _ (List.mem_append_right _ (List.mem_append_left _ (List.mem_of_getElem? (i := 106) (by decide +kernel))))))) rfl
theorem gm_783 : (Cond.laysFinal R_Mo "SureFunctionsModel" "answer" "[I" : Cond) ∈ gw := gw_of (List.mem_append_right _ (List.mem_append_right _ (List.mem_append_right _ (List.mem_append_right _ (List.mem_append_left _ (List.mem_of_getElem? (i := 108) (by decide +kernel))))))) rfl
theorem gm_784 : (Cond.lays R_Mo "SureFunctionsModel" "thrown" "I" : Cond) ∈ gw := gw_of (List.mem_append_right _ (List.mem_append_right _ (List.mem_append_right _ (List.mem_append_right _ (List.mem_append_left _ (List.mem_of_getElem? (i := 110) (by decide +kernel))))))) rfl
theorem gm_785 : (Cond.methodLink R_La 55 y_Mo_thrown : Cond) ∈ gw := gw_of (List.mem_append_right _ (List.mem_append_right _ (List.mem_append_right _ (List.mem_append_right _ (List.mem_append_left _ (List.mem_of_getElem? (i := 113) (by decide +kernel))))))) rfl
theorem gm_786 : (Cond.instanceMethod y_Mo_thrown : Cond) ∈ gw := gw_of (List.mem_append_right _ (List.mem_append_right _ (List.mem_append_right _ (List.mem_append_right _ (List.mem_append_left _ (List.mem_of_getElem? (i := 114) (by decide +kernel))))))) rfl
theorem gm_787 : (Cond.selects R_Mo y_Mo_thrown y_Mo_thrown : Cond) ∈ gw := gw_of (List.mem_append_right _ (List.mem_append_right _ (List.mem_append_right _ (List.mem_append_right _ (List.mem_append_left _ (List.mem_of_getElem? (i := 115) (by decide +kernel))))))) rfl
theorem gm_788 : (Cond.code y_Mo_thrown b_Mo_thrown 1 (some .int) : Cond) ∈ gw := gw_of (List.mem_append_right _ (List.mem_append_right _ (List.mem_append_right _ (List.mem_append_right _ (List.mem_append_left _ (List.mem_of_getElem? (i := 116) (by decide +kernel))))))) rfl
theorem gm_789 : (Cond.methodLink R_La 54 y_Mo_constructor : Cond) ∈ gw := gw_of (List.mem_append_right _ (List.mem_append_right _ (List.mem_append_right _ (List.mem_append_right _ (List.mem_append_left _ (List.mem_of_getElem? (i := 117) (by decide +kernel))))))) rfl
theorem gm_790 : (Cond.instanceMethod y_Mo_constructor : Cond) ∈ gw := gw_of (List.mem_append_right _ (List.mem_append_right _ (List.mem_append_right _ (List.mem_append_right _ (List.mem_append_left _ (List.mem_of_getElem? (i := 118) (by decide +kernel))))))) rfl
theorem gm_791 : (Cond.selects R_Mo y_Mo_constructor y_Mo_constructor : Cond) ∈ gw := gw_of (List.mem_append_right _ (List.mem_append_right _ (List.mem_append_right _ (List.mem_append_right _ (List.mem_append_left _ (List.mem_of_getElem? (i := 119) (by decide +kernel))))))) rfl
theorem gm_792 : (Cond.code y_Mo_constructor b_Mo_constructor 5 (some .int) : Cond) ∈ gw := gw_of (List.mem_append_right _ (List.mem_append_right _ (List.mem_append_right _ (List.mem_append_right _ (List.mem_append_left _ (List.mem_of_getElem? (i := 120) (by decide +kernel))))))) rfl
theorem gm_793 : (Cond.methodLink R_Mo 112 y_Mo_wrongTypes : Cond) ∈ gw := gw_of (List.mem_append_right _ (List.mem_append_right _ (List.mem_append_right _ (List.mem_append_right _ (List.mem_append_left _ (List.mem_of_getElem? (i := 121) (by decide +kernel))))))) rfl
theorem gm_794 : (Cond.static y_Mo_wrongTypes : Cond) ∈ gw := gw_of (List.mem_append_right _ (List.mem_append_right _ (List.mem_append_right _ (List.mem_append_right _ (List.mem_append_left _ (List.mem_of_getElem? (i := 122) (by decide +kernel))))))) rfl
theorem gm_795 : (Cond.code y_Mo_wrongTypes b_Mo_wrongTypes 7 (some .boolean) : Cond) ∈ gw := gw_of (List.mem_append_right _ (List.mem_append_right _ (List.mem_append_right _ (List.mem_append_right _ (List.mem_append_left _ (List.mem_of_getElem? (i := 123) (by decide +kernel))))))) rfl
theorem gm_796 : (Cond.methodLink R_Mo 108 y_Mo_outside : Cond) ∈ gw := gw_of (List.mem_append_right _ (List.mem_append_right _ (List.mem_append_right _ (List.mem_append_right _ (List.mem_append_left _ (List.mem_of_getElem? (i := 124) (by decide +kernel))))))) rfl
theorem gm_797 : (Cond.static y_Mo_outside : Cond) ∈ gw := gw_of (List.mem_append_right _ (List.mem_append_right _ (List.mem_append_right _ (List.mem_append_right _ (List.mem_append_left _ (List.mem_of_getElem? (i := 125) (by decide +kernel))))))) rfl
theorem gm_798 : (Cond.code y_Mo_outside b_Mo_outside 2 (some .boolean) : Cond) ∈ gw := gw_of (List.mem_append_right _ (List.mem_append_right _ (List.mem_append_right _ (List.mem_append_right _ (List.mem_append_left _ (List.mem_of_getElem? (i := 126) (by decide +kernel))))))) rfl
theorem gm_799 : (Cond.methodLink R_Mo 119 y_Mo_many : Cond) ∈ gw := gw_of (List.mem_append_right _ (List.mem_append_right _ (List.mem_append_right _ (List.mem_append_right _ (List.mem_append_left _ (List.mem_of_getElem? (i := 127) (by decide +kernel))))))) rfl
theorem gm_800 : (Cond.static y_Mo_many : Cond) ∈ gw := gw_of (List.mem_append_right _ (List.mem_append_right _ (List.mem_append_right _ (List.mem_append_right _ (List.mem_append_left _ (List.mem_of_getElem? (i := 128) (by decide +kernel))))))) rfl
theorem gm_801 : (Cond.code y_Mo_many b_Mo_many 3 (some .int) : Cond) ∈ gw := gw_of (List.mem_append_right _ (List.mem_append_right _ (List.mem_append_right _ (List.mem_append_right _ (List.mem_append_left _ (List.mem_of_getElem? (i := 129) (by decide +kernel))))))) rfl
theorem gm_802 : (Cond.methodLink R_La 61 y_Mo_function : Cond) ∈ gw := gw_of (List.mem_append_right _ (List.mem_append_right _ (List.mem_append_right _ (List.mem_append_right _ (List.mem_append_left _ (List.mem_of_getElem? (i := 130) (by decide +kernel))))))) rfl
theorem gm_803 : (Cond.instanceMethod y_Mo_function : Cond) ∈ gw := gw_of (List.mem_append_right _ (List.mem_append_right _ (List.mem_append_right _ (List.mem_append_right _ (List.mem_append_left _ (List.mem_of_getElem? (i := 131) (by decide +kernel))))))) rfl
theorem gm_804 : (Cond.selects R_Mo y_Mo_function y_Mo_function : Cond) ∈ gw := gw_of (List.mem_append_right _ (List.mem_append_right _ (List.mem_append_right _ (List.mem_append_right _ (List.mem_append_left _ (List.mem_of_getElem? (i := 132) (by decide +kernel))))))) rfl
theorem gm_805 : (Cond.code y_Mo_function b_Mo_function 5 (some .int) : Cond) ∈ gw := gw_of (List.mem_append_right _ (List.mem_append_right _ (List.mem_append_right _ (List.mem_append_right _ (List.mem_append_left _ (List.mem_of_getElem? (i := 133) (by decide +kernel))))))) rfl
theorem gm_806 : (Cond.methodLink R_La 65 y_Mo_variable : Cond) ∈ gw := gw_of (List.mem_append_right _ (List.mem_append_right _ (List.mem_append_right _ (List.mem_append_right _ (List.mem_append_left _ (List.mem_of_getElem? (i := 134) (by decide +kernel))))))) rfl
theorem gm_807 : (Cond.instanceMethod y_Mo_variable : Cond) ∈ gw := gw_of (List.mem_append_right _ (List.mem_append_right _ (List.mem_append_right _ (List.mem_append_right _ (List.mem_append_left _ (List.mem_of_getElem? (i := 135) (by decide +kernel))))))) rfl
theorem gm_808 : (Cond.selects R_Mo y_Mo_variable y_Mo_variable : Cond) ∈ gw := gw_of (List.mem_append_right _ (List.mem_append_right _ (List.mem_append_right _ (List.mem_append_right _ (List.mem_append_left _ (List.mem_of_getElem? (i := 136) (by decide +kernel))))))) rfl
theorem gm_809 : (Cond.code y_Mo_variable b_Mo_variable 2 (some .int) : Cond) ∈ gw := gw_of (List.mem_append_right _ (List.mem_append_right _ (List.mem_append_right _ (List.mem_append_right _ (List.mem_append_left _ (List.mem_of_getElem? (i := 137) (by decide +kernel))))))) rfl
theorem gm_810 : (Cond.methodLink R_La 68 y_Mo_make : Cond) ∈ gw := gw_of (List.mem_append_right _ (List.mem_append_right _ (List.mem_append_right _ (List.mem_append_right _ (List.mem_append_left _ (List.mem_of_getElem? (i := 138) (by decide +kernel))))))) rfl
theorem gm_811 : (Cond.instanceMethod y_Mo_make : Cond) ∈ gw := gw_of (List.mem_append_right _ (List.mem_append_right _ (List.mem_append_right _ (List.mem_append_right _ (List.mem_append_left _ (List.mem_of_getElem? (i := 139) (by decide +kernel))))))) rfl
theorem gm_812 : (Cond.selects R_Mo y_Mo_make y_Mo_make : Cond) ∈ gw := gw_of (List.mem_append_right _ (List.mem_append_right _ (List.mem_append_right _ (List.mem_append_right _ (List.mem_append_left _ (List.mem_of_getElem? (i := 140) (by decide +kernel))))))) rfl
theorem gm_813 : (Cond.code y_Mo_make b_Mo_make 5 (some .int) : Cond) ∈ gw := gw_of (List.mem_append_right _ (List.mem_append_right _ (List.mem_append_right _ (List.mem_append_right _ (List.mem_append_left _ (List.mem_of_getElem? (i := 141) (by decide +kernel))))))) rfl
theorem gm_814 : (Cond.methodLink R_Mo 137 y_Mo_build : Cond) ∈ gw := gw_of (List.mem_append_right _ (List.mem_append_right _ (List.mem_append_right _ (List.mem_append_right _ (List.mem_append_left _ (List.mem_of_getElem? (i := 142) (by decide +kernel))))))) rfl
theorem gm_815 : (Cond.instanceMethod y_Mo_build : Cond) ∈ gw := gw_of (List.mem_append_right _ (List.mem_append_right _ (List.mem_append_right _ (List.mem_append_right _ (List.mem_append_left _ (List.mem_of_getElem? (i := 144) (by decide +kernel))))))) rfl
theorem gm_816 : (Cond.code y_Mo_build b_Mo_build 11 (some .int) : Cond) ∈ gw := gw_of (List.mem_append_right _ (List.mem_append_right _ (List.mem_append_right _ (List.mem_append_right _ (List.mem_append_left _ (List.mem_of_getElem? (i := 145) (by decide +kernel))))))) rfl
theorem gm_817 : (Cond.methodLink R_Mo 133 y_Mo_isTerm : Cond) ∈ gw := gw_of (List.mem_append_right _ (List.mem_append_right _ (List.mem_append_right _ (List.mem_append_right _ (List.mem_append_left _ (List.mem_of_getElem? (i := 146) (by decide +kernel))))))) rfl
theorem gm_818 : (Cond.instanceMethod y_Mo_isTerm : Cond) ∈ gw := gw_of (List.mem_append_right _ (List.mem_append_right _ (List.mem_append_right _ (List.mem_append_right _ (List.mem_append_left _ (List.mem_of_getElem? (i := 148) (by decide +kernel))))))) rfl
theorem gm_819 : (Cond.code y_Mo_isTerm b_Mo_isTerm 2 (some .boolean) : Cond) ∈ gw := gw_of (List.mem_append_right _ (List.mem_append_right _ (List.mem_append_right _ (List.mem_append_right _ (List.mem_append_left _ (List.mem_of_getElem? (i := 149) (by decide +kernel))))))) rfl
theorem gm_820 : (Cond.methodLink R_La 71 y_Mo_call : Cond) ∈ gw := gw_of (List.mem_append_right _ (List.mem_append_right _ (List.mem_append_right _ (List.mem_append_right _ (List.mem_append_left _ (List.mem_of_getElem? (i := 150) (by decide +kernel))))))) rfl
theorem gm_821 : (Cond.instanceMethod y_Mo_call : Cond) ∈ gw := gw_of (List.mem_append_right _ (List.mem_append_right _ (List.mem_append_right _ (List.mem_append_right _ (List.mem_append_left _ (List.mem_of_getElem? (i := 151) (by decide +kernel))))))) rfl
theorem gm_822 : (Cond.selects R_Mo y_Mo_call y_Mo_call : Cond) ∈ gw := gw_of (List.mem_append_right _ (List.mem_append_right _ (List.mem_append_right _ (List.mem_append_right _ (List.mem_append_left _ (List.mem_of_getElem? (i := 152) (by decide +kernel))))))) rfl
theorem gm_823 : (Cond.code y_Mo_call b_Mo_call 5 (some .int) : Cond) ∈ gw := gw_of (List.mem_append_right _ (List.mem_append_right _ (List.mem_append_right _ (List.mem_append_right _ (List.mem_append_left _ (List.mem_of_getElem? (i := 153) (by decide +kernel))))))) rfl
theorem gm_824 : (Cond.methodLink R_La 75 y_Mo_clause : Cond) ∈ gw := gw_of (List.mem_append_right _ (List.mem_append_right _ (List.mem_append_right _ (List.mem_append_right _ (List.mem_append_left _ (List.mem_of_getElem? (i := 154) (by decide +kernel))))))) rfl
theorem gm_825 : (Cond.instanceMethod y_Mo_clause : Cond) ∈ gw := gw_of (List.mem_append_right _ (List.mem_append_right _ (List.mem_append_right _ (List.mem_append_right _ (List.mem_append_left _ (List.mem_of_getElem? (i := 155) (by decide +kernel))))))) rfl
theorem gm_826 : (Cond.selects R_Mo y_Mo_clause y_Mo_clause : Cond) ∈ gw := gw_of (List.mem_append_right _ (List.mem_append_right _ (List.mem_append_right _ (List.mem_append_right _ (List.mem_append_left _ (List.mem_of_getElem? (i := 156) (by decide +kernel))))))) rfl
theorem gm_827 : (Cond.code y_Mo_clause b_Mo_clause 9 (some .int) : Cond) ∈ gw := gw_of (List.mem_append_right _ (List.mem_append_right _ (List.mem_append_right _ (List.mem_append_right _ (List.mem_append_left _ (List.mem_of_getElem? (i := 157) (by decide +kernel))))))) rfl
theorem gm_828 : (Cond.methodLink R_Mo 162 y_Mo_isClause : Cond) ∈ gw := gw_of (List.mem_append_right _ (List.mem_append_right _ (List.mem_append_right _ (List.mem_append_right _ (List.mem_append_left _ (List.mem_of_getElem? (i := 158) (by decide +kernel))))))) rfl
theorem gm_829 : (Cond.instanceMethod y_Mo_isClause : Cond) ∈ gw := gw_of (List.mem_append_right _ (List.mem_append_right _ (List.mem_append_right _ (List.mem_append_right _ (List.mem_append_left _ (List.mem_of_getElem? (i := 160) (by decide +kernel))))))) rfl
theorem gm_830 : (Cond.code y_Mo_isClause b_Mo_isClause 8 (some .boolean) : Cond) ∈ gw := gw_of (List.mem_append_right _ (List.mem_append_right _ (List.mem_append_right _ (List.mem_append_right _ (List.mem_append_left _ (List.mem_of_getElem? (i := 161) (by decide +kernel))))))) rfl
theorem gm_831 : (Cond.methodLink R_Mo 156 y_Mo_isPattern : Cond) ∈ gw := gw_of (List.mem_append_right _ (List.mem_append_right _ (List.mem_append_right _ (List.mem_append_right _ (List.mem_append_left _ (List.mem_of_getElem? (i := 162) (by decide +kernel))))))) rfl
theorem gm_832 : (Cond.instanceMethod y_Mo_isPattern : Cond) ∈ gw := gw_of (List.mem_append_right _ (List.mem_append_right _ (List.mem_append_right _ (List.mem_append_right _ (List.mem_append_left _ (List.mem_of_getElem? (i := 164) (by decide +kernel))))))) rfl
theorem gm_833 : (Cond.code y_Mo_isPattern b_Mo_isPattern 3 (some .boolean) : Cond) ∈ gw := gw_of (List.mem_append_right _ (List.mem_append_right _ (List.mem_append_right _ (List.mem_append_right _ (List.mem_append_left _ (List.mem_of_getElem? (i := 165) (by decide +kernel))))))) rfl
theorem gm_834 : (Cond.methodLink R_Mo 148 y_Mo_push : Cond) ∈ gw := gw_of (List.mem_append_right _ (List.mem_append_right _ (List.mem_append_right _ (List.mem_append_right _ (List.mem_append_left _ (List.mem_of_getElem? (i := 166) (by decide +kernel))))))) rfl
theorem gm_835 : (Cond.instanceMethod y_Mo_push : Cond) ∈ gw := gw_of (List.mem_append_right _ (List.mem_append_right _ (List.mem_append_right _ (List.mem_append_right _ (List.mem_append_left _ (List.mem_of_getElem? (i := 168) (by decide +kernel))))))) rfl
theorem gm_836 : (Cond.code y_Mo_push b_Mo_push 3 none : Cond) ∈ gw := gw_of (List.mem_append_right _ (List.mem_append_right _ (List.mem_append_right _ (List.mem_append_right _ (List.mem_append_left _ (List.mem_of_getElem? (i := 169) (by decide +kernel))))))) rfl
theorem gm_837 : (Cond.methodLink R_Mo 152 y_Mo_pushBelow : Cond) ∈ gw := gw_of (List.mem_append_right _ (List.mem_append_right _ (List.mem_append_right _ (List.mem_append_right _ (List.mem_append_left _ (List.mem_of_getElem? (i := 170) (by decide +kernel))))))) rfl
theorem gm_838 : (Cond.instanceMethod y_Mo_pushBelow : Cond) ∈ gw := gw_of (List.mem_append_right _ (List.mem_append_right _ (List.mem_append_right _ (List.mem_append_right _ (List.mem_append_left _ (List.mem_of_getElem? (i := 172) (by decide +kernel))))))) rfl
theorem gm_839 : (Cond.code y_Mo_pushBelow b_Mo_pushBelow 3 none : Cond) ∈ gw := gw_of (List.mem_append_right _ (List.mem_append_right _ (List.mem_append_right _ (List.mem_append_right _ (List.mem_append_left _ (List.mem_of_getElem? (i := 173) (by decide +kernel))))))) rfl
theorem gm_840 : (Cond.methodLink R_Mo 144 y_Mo_places : Cond) ∈ gw := gw_of (List.mem_append_right _ (List.mem_append_right _ (List.mem_append_right _ (List.mem_append_right _ (List.mem_append_left _ (List.mem_of_getElem? (i := 174) (by decide +kernel))))))) rfl
theorem gm_841 : (Cond.instanceMethod y_Mo_places : Cond) ∈ gw := gw_of (List.mem_append_right _ (List.mem_append_right _ (List.mem_append_right _ (List.mem_append_right _ (List.mem_append_left _ (List.mem_of_getElem? (i := 176) (by decide +kernel))))))) rfl
theorem gm_842 : (Cond.code y_Mo_places b_Mo_places 3 (some .int) : Cond) ∈ gw := gw_of (List.mem_append_right _ (List.mem_append_right _ (List.mem_append_right _ (List.mem_append_right _ (List.mem_append_left _ (List.mem_of_getElem? (i := 177) (by decide +kernel))))))) rfl
theorem gm_843 : (Cond.methodLink R_Mo 159 y_Mo_isBody : Cond) ∈ gw := gw_of (List.mem_append_right _ (List.mem_append_right _ (List.mem_append_right _ (List.mem_append_right _ (List.mem_append_left _ (List.mem_of_getElem? (i := 178) (by decide +kernel))))))) rfl
theorem gm_844 : (Cond.instanceMethod y_Mo_isBody : Cond) ∈ gw := gw_of (List.mem_append_right _ (List.mem_append_right _ (List.mem_append_right _ (List.mem_append_right _ (List.mem_append_left _ (List.mem_of_getElem? (i := 180) (by decide +kernel))))))) rfl
theorem gm_845 : (Cond.code y_Mo_isBody b_Mo_isBody 3 (some .boolean) : Cond) ∈ gw := gw_of (List.mem_append_right _ (List.mem_append_right _ (List.mem_append_right _ (List.mem_append_right _ (List.mem_append_left _ (List.mem_of_getElem? (i := 181) (by decide +kernel))))))) rfl
theorem gm_846 : (Cond.methodLink R_La 79 y_Mo_check : Cond) ∈ gw := gw_of (List.mem_append_right _ (List.mem_append_right _ (List.mem_append_right _ (List.mem_append_right _ (List.mem_append_left _ (List.mem_of_getElem? (i := 182) (by decide +kernel))))))) rfl
theorem gm_847 : (Cond.instanceMethod y_Mo_check : Cond) ∈ gw := gw_of (List.mem_append_right _ (List.mem_append_right _ (List.mem_append_right _ (List.mem_append_right _ (List.mem_append_left _ (List.mem_of_getElem? (i := 183) (by decide +kernel))))))) rfl
theorem gm_848 : (Cond.selects R_Mo y_Mo_check y_Mo_check : Cond) ∈ gw := gw_of (List.mem_append_right _ (List.mem_append_right _ (List.mem_append_right _ (List.mem_append_right _ (List.mem_append_left _ (List.mem_of_getElem? (i := 184) (by decide +kernel))))))) rfl
theorem gm_849 : (Cond.code y_Mo_check b_Mo_check 3 (some .int) : Cond) ∈ gw := gw_of (List.mem_append_right _ (List.mem_append_right _ (List.mem_append_right _ (List.mem_append_right _ (List.mem_append_left _ (List.mem_of_getElem? (i := 185) (by decide +kernel))))))) rfl
theorem gm_850 : (Cond.methodLink R_Mo 215 y_Mo_allInhabited : Cond) ∈ gw := gw_of (List.mem_append_right _ (List.mem_append_right _ (List.mem_append_right _ (List.mem_append_right _ (List.mem_append_left _ (List.mem_of_getElem? (i := 186) (by decide +kernel))))))) rfl
theorem gm_851 : (Cond.instanceMethod y_Mo_allInhabited : Cond) ∈ gw := gw_of (List.mem_append_right _ (List.mem_append_right _ (List.mem_append_right _ (List.mem_append_right _ (List.mem_append_left _ (List.mem_of_getElem? (i := 188) (by decide +kernel))))))) rfl
theorem gm_852 : (Cond.code y_Mo_allInhabited b_Mo_allInhabited 5 (some .boolean) : Cond) ∈ gw := gw_of (List.mem_append_right _ (List.mem_append_right _ (List.mem_append_right _ (List.mem_append_right _ (List.mem_append_left _ (List.mem_of_getElem? (i := 189) (by decide +kernel))))))) rfl
theorem gm_853 : (Cond.methodLink R_Mo 219 y_Mo_allTyped : Cond) ∈ gw := gw_of (List.mem_append_right _ (List.mem_append_right _ (List.mem_append_right _ (List.mem_append_right _ (List.mem_append_left _ (List.mem_of_getElem? (i := 190) (by decide +kernel))))))) rfl
theorem gm_854 : (Cond.instanceMethod y_Mo_allTyped : Cond) ∈ gw := gw_of (List.mem_append_right _ (List.mem_append_right _ (List.mem_append_right _ (List.mem_append_right _ (List.mem_append_left _ (List.mem_of_getElem? (i := 192) (by decide +kernel))))))) rfl
theorem gm_855 : (Cond.code y_Mo_allTyped b_Mo_allTyped 4 (some .boolean) : Cond) ∈ gw := gw_of (List.mem_append_right _ (List.mem_append_right _ (List.mem_append_right _ (List.mem_append_right _ (List.mem_append_left _ (List.mem_of_getElem? (i := 193) (by decide +kernel))))))) rfl
theorem gm_856 : (Cond.methodLink R_Mo 169 y_Mo_isTyped : Cond) ∈ gw := gw_of (List.mem_append_right _ (List.mem_append_right _ (List.mem_append_right _ (List.mem_append_right _ (List.mem_append_left _ (List.mem_of_getElem? (i := 194) (by decide +kernel))))))) rfl
theorem gm_857 : (Cond.instanceMethod y_Mo_isTyped : Cond) ∈ gw := gw_of (List.mem_append_right _ (List.mem_append_right _ (List.mem_append_right _ (List.mem_append_right _ (List.mem_append_left _ (List.mem_of_getElem? (i := 196) (by decide +kernel))))))) rfl
theorem gm_858 : (Cond.code y_Mo_isTyped b_Mo_isTyped 8 (some .boolean) : Cond) ∈ gw := gw_of (List.mem_append_right _ (List.mem_append_right _ (List.mem_append_right _ (List.mem_append_right _ (List.mem_append_left _ (List.mem_of_getElem? (i := 197) (by decide +kernel))))))) rfl
theorem gm_859 : (Cond.methodLink R_Mo 222 y_Mo_isCovered : Cond) ∈ gw := gw_of (List.mem_append_right _ (List.mem_append_right _ (List.mem_append_right _ (List.mem_append_right _ (List.mem_append_left _ (List.mem_of_getElem? (i := 198) (by decide +kernel))))))) rfl
theorem gm_860 : (Cond.instanceMethod y_Mo_isCovered : Cond) ∈ gw := gw_of (List.mem_append_right _ (List.mem_append_right _ (List.mem_append_right _ (List.mem_append_right _ (List.mem_append_left _ (List.mem_of_getElem? (i := 200) (by decide +kernel))))))) rfl
theorem gm_861 : (Cond.code y_Mo_isCovered b_Mo_isCovered 7 (some .boolean) : Cond) ∈ gw := gw_of (List.mem_append_right _ (List.mem_append_right _ (List.mem_append_right _ (List.mem_append_right _ (List.mem_append_left _ (List.mem_of_getElem? (i := 201) (by decide +kernel))))))) rfl
theorem gm_862 : (Cond.methodLink R_Mo 177 y_Mo_stands : Cond) ∈ gw := gw_of (List.mem_append_right _ (List.mem_append_right _ (List.mem_append_right _ (List.mem_append_right _ (List.mem_append_left _ (List.mem_of_getElem? (i := 202) (by decide +kernel))))))) rfl
theorem gm_863 : (Cond.instanceMethod y_Mo_stands : Cond) ∈ gw := gw_of (List.mem_append_right _ (List.mem_append_right _ (List.mem_append_right _ (List.mem_append_right _ (List.mem_append_left _ (List.mem_of_getElem? (i := 204) (by decide +kernel))))))) rfl
theorem gm_864 : (Cond.code y_Mo_stands b_Mo_stands 7 (some .int) : Cond) ∈ gw := gw_of (List.mem_append_right _ (List.mem_append_right _ (List.mem_append_right _ (List.mem_append_right _ (List.mem_append_left _ (List.mem_of_getElem? (i := 205) (by decide +kernel))))))) rfl
theorem gm_865 : (Cond.methodLink R_Mo 173 y_Mo_wants : Cond) ∈ gw := gw_of (List.mem_append_right _ (List.mem_append_right _ (List.mem_append_right _ (List.mem_append_right _ (List.mem_append_left _ (List.mem_of_getElem? (i := 206) (by decide +kernel))))))) rfl
theorem gm_866 : (Cond.instanceMethod y_Mo_wants : Cond) ∈ gw := gw_of (List.mem_append_right _ (List.mem_append_right _ (List.mem_append_right _ (List.mem_append_right _ (List.mem_append_left _ (List.mem_of_getElem? (i := 208) (by decide +kernel))))))) rfl
theorem gm_867 : (Cond.code y_Mo_wants b_Mo_wants 5 (some .int) : Cond) ∈ gw := gw_of (List.mem_append_right _ (List.mem_append_right _ (List.mem_append_right _ (List.mem_append_right _ (List.mem_append_left _ (List.mem_of_getElem? (i := 209) (by decide +kernel))))))) rfl
theorem gm_868 : (Cond.methodLink R_Mo 180 y_Mo_splitAt : Cond) ∈ gw := gw_of (List.mem_append_right _ (List.mem_append_right _ (List.mem_append_right _ (List.mem_append_right _ (List.mem_append_left _ (List.mem_of_getElem? (i := 210) (by decide +kernel))))))) rfl
theorem gm_869 : (Cond.instanceMethod y_Mo_splitAt : Cond) ∈ gw := gw_of (List.mem_append_right _ (List.mem_append_right _ (List.mem_append_right _ (List.mem_append_right _ (List.mem_append_left _ (List.mem_of_getElem? (i := 212) (by decide +kernel))))))) rfl
theorem gm_870 : (Cond.code y_Mo_splitAt b_Mo_splitAt 8 (some .int) : Cond) ∈ gw := gw_of (List.mem_append_right _ (List.mem_append_right _ (List.mem_append_right _ (List.mem_append_right _ (List.mem_append_left _ (List.mem_of_getElem? (i := 213) (by decide +kernel))))))) rfl
theorem gm_871 : (Cond.methodLink R_Mo 183 y_Mo_typeAt : Cond) ∈ gw := gw_of (List.mem_append_right _ (List.mem_append_right _ (List.mem_append_right _ (List.mem_append_right _ (List.mem_append_left _ (List.mem_of_getElem? (i := 214) (by decide +kernel))))))) rfl
theorem gm_872 : (Cond.instanceMethod y_Mo_typeAt : Cond) ∈ gw := gw_of (List.mem_append_right _ (List.mem_append_right _ (List.mem_append_right _ (List.mem_append_right _ (List.mem_append_left _ (List.mem_of_getElem? (i := 216) (by decide +kernel))))))) rfl
theorem gm_873 : (Cond.code y_Mo_typeAt b_Mo_typeAt 4 (some .int) : Cond) ∈ gw := gw_of (List.mem_append_right _ (List.mem_append_right _ (List.mem_append_right _ (List.mem_append_right _ (List.mem_append_left _ (List.mem_of_getElem? (i := 217) (by decide +kernel))))))) rfl
theorem gm_874 : (Cond.methodLink R_Mo 225 y_Mo_isEnding : Cond) ∈ gw := gw_of (List.mem_append_right _ (List.mem_append_right _ (List.mem_append_right _ (List.mem_append_right _ (List.mem_append_left _ (List.mem_of_getElem? (i := 218) (by decide +kernel))))))) rfl
theorem gm_875 : (Cond.instanceMethod y_Mo_isEnding : Cond) ∈ gw := gw_of (List.mem_append_right _ (List.mem_append_right _ (List.mem_append_right _ (List.mem_append_right _ (List.mem_append_left _ (List.mem_of_getElem? (i := 220) (by decide +kernel))))))) rfl
theorem gm_876 : (Cond.code y_Mo_isEnding b_Mo_isEnding 4 (some .boolean) : Cond) ∈ gw := gw_of (List.mem_append_right _ (List.mem_append_right _ (List.mem_append_right _ (List.mem_append_right _ (List.mem_append_left _ (List.mem_of_getElem? (i := 221) (by decide +kernel))))))) rfl
theorem gm_877 : (Cond.methodLink R_Mo 209 y_Mo_callGraphs : Cond) ∈ gw := gw_of (List.mem_append_right _ (List.mem_append_right _ (List.mem_append_right _ (List.mem_append_right _ (List.mem_append_left _ (List.mem_of_getElem? (i := 222) (by decide +kernel))))))) rfl
theorem gm_878 : (Cond.instanceMethod y_Mo_callGraphs : Cond) ∈ gw := gw_of (List.mem_append_right _ (List.mem_append_right _ (List.mem_append_right _ (List.mem_append_right _ (List.mem_append_left _ (List.mem_of_getElem? (i := 224) (by decide +kernel))))))) rfl
theorem gm_879 : (Cond.code y_Mo_callGraphs b_Mo_callGraphs 8 none : Cond) ∈ gw := gw_of (List.mem_append_right _ (List.mem_append_right _ (List.mem_append_right _ (List.mem_append_right _ (List.mem_append_left _ (List.mem_of_getElem? (i := 225) (by decide +kernel))))))) rfl
theorem gm_880 : (Cond.methodLink R_Mo 198 y_Mo_callOf : Cond) ∈ gw := gw_of (List.mem_append_right _ (List.mem_append_right _ (List.mem_append_right _ (List.mem_append_right _ (List.mem_append_left _ (List.mem_of_getElem? (i := 226) (by decide +kernel))))))) rfl
theorem gm_881 : (Cond.instanceMethod y_Mo_callOf : Cond) ∈ gw := gw_of (List.mem_append_right _ (List.mem_append_right _ (List.mem_append_right _ (List.mem_append_right _ (List.mem_append_left _ (List.mem_of_getElem? (i := 228) (by decide +kernel))))))) rfl
theorem gm_882 : (Cond.code y_Mo_callOf b_Mo_callOf 5 (some .int) : Cond) ∈ gw := gw_of (List.mem_append_right _ (List.mem_append_right _ (List.mem_append_right _ (List.mem_append_right _ (List.mem_append_left _ (List.mem_of_getElem? (i := 229) (by decide +kernel))))))) rfl
theorem gm_883 : (Cond.methodLink R_Mo 201 y_Mo_arcOf : Cond) ∈ gw := gw_of (List.mem_append_right _ (List.mem_append_right _ (List.mem_append_right _ (List.mem_append_right _ (List.mem_append_left _ (List.mem_of_getElem? (i := 230) (by decide +kernel))))))) rfl
theorem gm_884 : (Cond.instanceMethod y_Mo_arcOf : Cond) ∈ gw := gw_of (List.mem_append_right _ (List.mem_append_right _ (List.mem_append_right _ (List.mem_append_right _ (List.mem_append_left _ (List.mem_of_getElem? (i := 232) (by decide +kernel))))))) rfl
theorem gm_885 : (Cond.code y_Mo_arcOf b_Mo_arcOf 5 (some .int) : Cond) ∈ gw := gw_of (List.mem_append_right _ (List.mem_append_right _ (List.mem_append_right _ (List.mem_append_right _ (List.mem_append_left _ (List.mem_of_getElem? (i := 233) (by decide +kernel))))))) rfl
theorem gm_886 : (Cond.methodLink R_Mo 189 y_Mo_inside : Cond) ∈ gw := gw_of (List.mem_append_right _ (List.mem_append_right _ (List.mem_append_right _ (List.mem_append_right _ (List.mem_append_left _ (List.mem_of_getElem? (i := 234) (by decide +kernel))))))) rfl
theorem gm_887 : (Cond.instanceMethod y_Mo_inside : Cond) ∈ gw := gw_of (List.mem_append_right _ (List.mem_append_right _ (List.mem_append_right _ (List.mem_append_right _ (List.mem_append_left _ (List.mem_of_getElem? (i := 236) (by decide +kernel))))))) rfl
theorem gm_888 : (Cond.code y_Mo_inside b_Mo_inside 7 (some .int) : Cond) ∈ gw := gw_of (List.mem_append_right _ (List.mem_append_right _ (List.mem_append_right _ (List.mem_append_right _ (List.mem_append_left _ (List.mem_of_getElem? (i := 237) (by decide +kernel))))))) rfl
theorem gm_889 : (Cond.methodLink R_Mo 186 y_Mo_alike : Cond) ∈ gw := gw_of (List.mem_append_right _ (List.mem_append_right _ (List.mem_append_right _ (List.mem_append_right _ (List.mem_append_left _ (List.mem_of_getElem? (i := 238) (by decide +kernel))))))) rfl
theorem gm_890 : (Cond.instanceMethod y_Mo_alike : Cond) ∈ gw := gw_of (List.mem_append_right _ (List.mem_append_right _ (List.mem_append_right _ (List.mem_append_right _ (List.mem_append_right _ (List.mem_of_getElem? (i := 0) (by decide +kernel))))))) rfl
theorem gm_891 : (Cond.code y_Mo_alike b_Mo_alike 6 (some .boolean) : Cond) ∈ gw := gw_of (List.mem_append_right _ (List.mem_append_right _ (List.mem_append_right _ (List.mem_append_right _ (List.mem_append_right _ (List.mem_of_getElem? (i := 1) (by decide +kernel))))))) rfl
theorem gm_892 : (Cond.methodLink R_Mo 205 y_Mo_addGraph : Cond) ∈ gw := gw_of (List.mem_append_right _ (List.mem_append_right _ (List.mem_append_right _ (List.mem_append_right _ (List.mem_append_right _ (List.mem_of_getElem? (i := 2) (by decide +kernel))))))) rfl
theorem gm_893 : (Cond.instanceMethod y_Mo_addGraph : Cond) ∈ gw := gw_of (List.mem_append_right _ (List.mem_append_right _ (List.mem_append_right _ (List.mem_append_right _ (List.mem_append_right _ (List.mem_of_getElem? (i := 4) (by decide +kernel))))))) rfl
theorem gm_894 : (Cond.code y_Mo_addGraph b_Mo_addGraph 5 none : Cond) ∈ gw := gw_of (List.mem_append_right _ (List.mem_append_right _ (List.mem_append_right _ (List.mem_append_right _ (List.mem_append_right _ (List.mem_of_getElem? (i := 5) (by decide +kernel))))))) rfl
theorem gm_895 : (Cond.methodLink R_Mo 212 y_Mo_composed : Cond) ∈ gw := gw_of (List.mem_append_right _ (List.mem_append_right _ (List.mem_append_right _ (List.mem_append_right _ (List.mem_append_right _ (List.mem_of_getElem? (i := 6) (by decide +kernel))))))) rfl
theorem gm_896 : (Cond.static y_Mo_composed : Cond) ∈ gw := gw_of (List.mem_append_right _ (List.mem_append_right _ (List.mem_append_right _ (List.mem_append_right _ (List.mem_append_right _ (List.mem_of_getElem? (i := 7) (by decide +kernel))))))) rfl
theorem gm_897 : (Cond.code y_Mo_composed b_Mo_composed 10 (some .int) : Cond) ∈ gw := gw_of (List.mem_append_right _ (List.mem_append_right _ (List.mem_append_right _ (List.mem_append_right _ (List.mem_append_right _ (List.mem_of_getElem? (i := 8) (by decide +kernel))))))) rfl
theorem gm_898 : (Cond.methodLink R_Mo 195 y_Mo_arcAt : Cond) ∈ gw := gw_of (List.mem_append_right _ (List.mem_append_right _ (List.mem_append_right _ (List.mem_append_right _ (List.mem_append_right _ (List.mem_of_getElem? (i := 9) (by decide +kernel))))))) rfl
theorem gm_899 : (Cond.static y_Mo_arcAt : Cond) ∈ gw := gw_of (List.mem_append_right _ (List.mem_append_right _ (List.mem_append_right _ (List.mem_append_right _ (List.mem_append_right _ (List.mem_of_getElem? (i := 10) (by decide +kernel))))))) rfl
theorem gm_900 : (Cond.code y_Mo_arcAt b_Mo_arcAt 3 (some .int) : Cond) ∈ gw := gw_of (List.mem_append_right _ (List.mem_append_right _ (List.mem_append_right _ (List.mem_append_right _ (List.mem_append_right _ (List.mem_of_getElem? (i := 11) (by decide +kernel))))))) rfl
theorem gm_901 : (Cond.methodLink R_La 83 y_Mo_graphs : Cond) ∈ gw := gw_of (List.mem_append_right _ (List.mem_append_right _ (List.mem_append_right _ (List.mem_append_right _ (List.mem_append_right _ (List.mem_of_getElem? (i := 12) (by decide +kernel))))))) rfl
theorem gm_902 : (Cond.instanceMethod y_Mo_graphs : Cond) ∈ gw := gw_of (List.mem_append_right _ (List.mem_append_right _ (List.mem_append_right _ (List.mem_append_right _ (List.mem_append_right _ (List.mem_of_getElem? (i := 13) (by decide +kernel))))))) rfl
theorem gm_903 : (Cond.selects R_Mo y_Mo_graphs y_Mo_graphs : Cond) ∈ gw := gw_of (List.mem_append_right _ (List.mem_append_right _ (List.mem_append_right _ (List.mem_append_right _ (List.mem_append_right _ (List.mem_of_getElem? (i := 14) (by decide +kernel))))))) rfl
theorem gm_904 : (Cond.code y_Mo_graphs b_Mo_graphs 1 (some .int) : Cond) ∈ gw := gw_of (List.mem_append_right _ (List.mem_append_right _ (List.mem_append_right _ (List.mem_append_right _ (List.mem_append_right _ (List.mem_of_getElem? (i := 15) (by decide +kernel))))))) rfl
theorem gm_905 : (Cond.methodLink R_La 86 y_Mo_arc : Cond) ∈ gw := gw_of (List.mem_append_right _ (List.mem_append_right _ (List.mem_append_right _ (List.mem_append_right _ (List.mem_append_right _ (List.mem_of_getElem? (i := 16) (by decide +kernel))))))) rfl
theorem gm_906 : (Cond.instanceMethod y_Mo_arc : Cond) ∈ gw := gw_of (List.mem_append_right _ (List.mem_append_right _ (List.mem_append_right _ (List.mem_append_right _ (List.mem_append_right _ (List.mem_of_getElem? (i := 17) (by decide +kernel))))))) rfl
theorem gm_907 : (Cond.selects R_Mo y_Mo_arc y_Mo_arc : Cond) ∈ gw := gw_of (List.mem_append_right _ (List.mem_append_right _ (List.mem_append_right _ (List.mem_append_right _ (List.mem_append_right _ (List.mem_of_getElem? (i := 18) (by decide +kernel))))))) rfl
theorem gm_908 : (Cond.code y_Mo_arc b_Mo_arc 8 (some .int) : Cond) ∈ gw := gw_of (List.mem_append_right _ (List.mem_append_right _ (List.mem_append_right _ (List.mem_append_right _ (List.mem_append_right _ (List.mem_of_getElem? (i := 19) (by decide +kernel))))))) rfl
theorem gm_909 : (Cond.methodLink R_La 91 y_Mo_isValue : Cond) ∈ gw := gw_of (List.mem_append_right _ (List.mem_append_right _ (List.mem_append_right _ (List.mem_append_right _ (List.mem_append_right _ (List.mem_of_getElem? (i := 20) (by decide +kernel))))))) rfl
theorem gm_910 : (Cond.instanceMethod y_Mo_isValue : Cond) ∈ gw := gw_of (List.mem_append_right _ (List.mem_append_right _ (List.mem_append_right _ (List.mem_append_right _ (List.mem_append_right _ (List.mem_of_getElem? (i := 21) (by decide +kernel))))))) rfl
theorem gm_911 : (Cond.selects R_Mo y_Mo_isValue y_Mo_isValue : Cond) ∈ gw := gw_of (List.mem_append_right _ (List.mem_append_right _ (List.mem_append_right _ (List.mem_append_right _ (List.mem_append_right _ (List.mem_of_getElem? (i := 22) (by decide +kernel))))))) rfl
theorem gm_912 : (Cond.code y_Mo_isValue b_Mo_isValue 3 (some .boolean) : Cond) ∈ gw := gw_of (List.mem_append_right _ (List.mem_append_right _ (List.mem_append_right _ (List.mem_append_right _ (List.mem_append_right _ (List.mem_of_getElem? (i := 23) (by decide +kernel))))))) rfl
theorem gm_913 : (Cond.methodLink R_Mo 228 y_Mo_isClosed : Cond) ∈ gw := gw_of (List.mem_append_right _ (List.mem_append_right _ (List.mem_append_right _ (List.mem_append_right _ (List.mem_append_right _ (List.mem_of_getElem? (i := 24) (by decide +kernel))))))) rfl
theorem gm_914 : (Cond.instanceMethod y_Mo_isClosed : Cond) ∈ gw := gw_of (List.mem_append_right _ (List.mem_append_right _ (List.mem_append_right _ (List.mem_append_right _ (List.mem_append_right _ (List.mem_of_getElem? (i := 26) (by decide +kernel))))))) rfl
theorem gm_915 : (Cond.code y_Mo_isClosed b_Mo_isClosed 3 (some .boolean) : Cond) ∈ gw := gw_of (List.mem_append_right _ (List.mem_append_right _ (List.mem_append_right _ (List.mem_append_right _ (List.mem_append_right _ (List.mem_of_getElem? (i := 27) (by decide +kernel))))))) rfl
theorem gm_916 : (Cond.methodLink R_La 94 y_Mo_run : Cond) ∈ gw := gw_of (List.mem_append_right _ (List.mem_append_right _ (List.mem_append_right _ (List.mem_append_right _ (List.mem_append_right _ (List.mem_of_getElem? (i := 28) (by decide +kernel))))))) rfl
theorem gm_917 : (Cond.instanceMethod y_Mo_run : Cond) ∈ gw := gw_of (List.mem_append_right _ (List.mem_append_right _ (List.mem_append_right _ (List.mem_append_right _ (List.mem_append_right _ (List.mem_of_getElem? (i := 29) (by decide +kernel))))))) rfl
theorem gm_918 : (Cond.selects R_Mo y_Mo_run y_Mo_run : Cond) ∈ gw := gw_of (List.mem_append_right _ (List.mem_append_right _ (List.mem_append_right _ (List.mem_append_right _ (List.mem_append_right _ (List.mem_of_getElem? (i := 30) (by decide +kernel))))))) rfl
theorem gm_919 : (Cond.code y_Mo_run b_Mo_run 7 (some .int) : Cond) ∈ gw := gw_of (List.mem_append_right _ (List.mem_append_right _ (List.mem_append_right _ (List.mem_append_right _ (List.mem_append_right _ (List.mem_of_getElem? (i := 31) (by decide +kernel))))))) rfl
theorem gm_920 : (Cond.methodLink R_Mo 265 y_Mo_isValue : Cond) ∈ gw := gw_of (List.mem_append_right _ (List.mem_append_right _ (List.mem_append_right _ (List.mem_append_right _ (List.mem_append_right _ (List.mem_of_getElem? (i := 32) (by decide +kernel))))))) rfl
theorem gm_921 : (Cond.methodLink R_Mo 268 y_Mo_give : Cond) ∈ gw := gw_of (List.mem_append_right _ (List.mem_append_right _ (List.mem_append_right _ (List.mem_append_right _ (List.mem_append_right _ (List.mem_of_getElem? (i := 33) (by decide +kernel))))))) rfl
theorem gm_922 : (Cond.instanceMethod y_Mo_give : Cond) ∈ gw := gw_of (List.mem_append_right _ (List.mem_append_right _ (List.mem_append_right _ (List.mem_append_right _ (List.mem_append_right _ (List.mem_of_getElem? (i := 35) (by decide +kernel))))))) rfl
theorem gm_923 : (Cond.code y_Mo_give b_Mo_give 3 none : Cond) ∈ gw := gw_of (List.mem_append_right _ (List.mem_append_right _ (List.mem_append_right _ (List.mem_append_right _ (List.mem_append_right _ (List.mem_of_getElem? (i := 36) (by decide +kernel))))))) rfl
theorem gm_924 : (Cond.methodLink R_Mo 240 y_Mo_doLater : Cond) ∈ gw := gw_of (List.mem_append_right _ (List.mem_append_right _ (List.mem_append_right _ (List.mem_append_right _ (List.mem_append_right _ (List.mem_of_getElem? (i := 37) (by decide +kernel))))))) rfl
theorem gm_925 : (Cond.instanceMethod y_Mo_doLater : Cond) ∈ gw := gw_of (List.mem_append_right _ (List.mem_append_right _ (List.mem_append_right _ (List.mem_append_right _ (List.mem_append_right _ (List.mem_of_getElem? (i := 39) (by decide +kernel))))))) rfl
theorem gm_926 : (Cond.code y_Mo_doLater b_Mo_doLater 3 none : Cond) ∈ gw := gw_of (List.mem_append_right _ (List.mem_append_right _ (List.mem_append_right _ (List.mem_append_right _ (List.mem_append_right _ (List.mem_of_getElem? (i := 40) (by decide +kernel))))))) rfl
theorem gm_927 : (Cond.methodLink R_Mo 250 y_Mo_evaluate : Cond) ∈ gw := gw_of (List.mem_append_right _ (List.mem_append_right _ (List.mem_append_right _ (List.mem_append_right _ (List.mem_append_right _ (List.mem_of_getElem? (i := 41) (by decide +kernel))))))) rfl
theorem gm_928 : (Cond.instanceMethod y_Mo_evaluate : Cond) ∈ gw := gw_of (List.mem_append_right _ (List.mem_append_right _ (List.mem_append_right _ (List.mem_append_right _ (List.mem_append_right _ (List.mem_of_getElem? (i := 43) (by decide +kernel))))))) rfl
theorem gm_929 : (Cond.code y_Mo_evaluate b_Mo_evaluate 5 none : Cond) ∈ gw := gw_of (List.mem_append_right _ (List.mem_append_right _ (List.mem_append_right _ (List.mem_append_right _ (List.mem_append_right _ (List.mem_of_getElem? (i := 44) (by decide +kernel))))))) rfl
theorem gm_930 : (Cond.methodLink R_Mo 259 y_Mo_hold : Cond) ∈ gw := gw_of (List.mem_append_right _ (List.mem_append_right _ (List.mem_append_right _ (List.mem_append_right _ (List.mem_append_right _ (List.mem_of_getElem? (i := 45) (by decide +kernel))))))) rfl
theorem gm_931 : (Cond.instanceMethod y_Mo_hold : Cond) ∈ gw := gw_of (List.mem_append_right _ (List.mem_append_right _ (List.mem_append_right _ (List.mem_append_right _ (List.mem_append_right _ (List.mem_of_getElem? (i := 47) (by decide +kernel))))))) rfl
theorem gm_932 : (Cond.code y_Mo_hold b_Mo_hold 6 none : Cond) ∈ gw := gw_of (List.mem_append_right _ (List.mem_append_right _ (List.mem_append_right _ (List.mem_append_right _ (List.mem_append_right _ (List.mem_of_getElem? (i := 48) (by decide +kernel))))))) rfl
theorem gm_933 : (Cond.methodLink R_Mo 271 y_Mo_finished : Cond) ∈ gw := gw_of (List.mem_append_right _ (List.mem_append_right _ (List.mem_append_right _ (List.mem_append_right _ (List.mem_append_right _ (List.mem_of_getElem? (i := 49) (by decide +kernel))))))) rfl
theorem gm_934 : (Cond.instanceMethod y_Mo_finished : Cond) ∈ gw := gw_of (List.mem_append_right _ (List.mem_append_right _ (List.mem_append_right _ (List.mem_append_right _ (List.mem_append_right _ (List.mem_of_getElem? (i := 51) (by decide +kernel))))))) rfl
theorem gm_935 : (Cond.code y_Mo_finished b_Mo_finished 3 (some .boolean) : Cond) ∈ gw := gw_of (List.mem_append_right _ (List.mem_append_right _ (List.mem_append_right _ (List.mem_append_right _ (List.mem_append_right _ (List.mem_of_getElem? (i := 52) (by decide +kernel))))))) rfl
theorem gm_936 : (Cond.methodLink R_Mo 253 y_Mo_enter : Cond) ∈ gw := gw_of (List.mem_append_right _ (List.mem_append_right _ (List.mem_append_right _ (List.mem_append_right _ (List.mem_append_right _ (List.mem_of_getElem? (i := 53) (by decide +kernel))))))) rfl
theorem gm_937 : (Cond.instanceMethod y_Mo_enter : Cond) ∈ gw := gw_of (List.mem_append_right _ (List.mem_append_right _ (List.mem_append_right _ (List.mem_append_right _ (List.mem_append_right _ (List.mem_of_getElem? (i := 55) (by decide +kernel))))))) rfl
theorem gm_938 : (Cond.code y_Mo_enter b_Mo_enter 7 (some .boolean) : Cond) ∈ gw := gw_of (List.mem_append_right _ (List.mem_append_right _ (List.mem_append_right _ (List.mem_append_right _ (List.mem_append_right _ (List.mem_of_getElem? (i := 56) (by decide +kernel))))))) rfl
theorem gm_939 : (Cond.methodLink R_Mo 246 y_Mo_matches : Cond) ∈ gw := gw_of (List.mem_append_right _ (List.mem_append_right _ (List.mem_append_right _ (List.mem_append_right _ (List.mem_append_right _ (List.mem_of_getElem? (i := 57) (by decide +kernel))))))) rfl
theorem gm_940 : (Cond.instanceMethod y_Mo_matches : Cond) ∈ gw := gw_of (List.mem_append_right _ (List.mem_append_right _ (List.mem_append_right _ (List.mem_append_right _ (List.mem_append_right _ (List.mem_of_getElem? (i := 59) (by decide +kernel))))))) rfl
theorem gm_941 : (Cond.code y_Mo_matches b_Mo_matches 8 (some .boolean) : Cond) ∈ gw := gw_of (List.mem_append_right _ (List.mem_append_right _ (List.mem_append_right _ (List.mem_append_right _ (List.mem_append_right _ (List.mem_of_getElem? (i := 60) (by decide +kernel))))))) rfl
theorem gm_942 : (Cond.methodLink R_Mo 274 y_Mo_write : Cond) ∈ gw := gw_of (List.mem_append_right _ (List.mem_append_right _ (List.mem_append_right _ (List.mem_append_right _ (List.mem_append_right _ (List.mem_of_getElem? (i := 61) (by decide +kernel))))))) rfl
theorem gm_943 : (Cond.instanceMethod y_Mo_write : Cond) ∈ gw := gw_of (List.mem_append_right _ (List.mem_append_right _ (List.mem_append_right _ (List.mem_append_right _ (List.mem_append_right _ (List.mem_of_getElem? (i := 63) (by decide +kernel))))))) rfl
theorem gm_944 : (Cond.code y_Mo_write b_Mo_write 4 none : Cond) ∈ gw := gw_of (List.mem_append_right _ (List.mem_append_right _ (List.mem_append_right _ (List.mem_append_right _ (List.mem_append_right _ (List.mem_of_getElem? (i := 64) (by decide +kernel))))))) rfl
theorem gm_945 : (Cond.methodLink R_La 97 y_Mo_answer : Cond) ∈ gw := gw_of (List.mem_append_right _ (List.mem_append_right _ (List.mem_append_right _ (List.mem_append_right _ (List.mem_append_right _ (List.mem_of_getElem? (i := 65) (by decide +kernel))))))) rfl
theorem gm_946 : (Cond.instanceMethod y_Mo_answer : Cond) ∈ gw := gw_of (List.mem_append_right _ (List.mem_append_right _ (List.mem_append_right _ (List.mem_append_right _ (List.mem_append_right _ (List.mem_of_getElem? (i := 66) (by decide +kernel))))))) rfl
theorem gm_947 : (Cond.selects R_Mo y_Mo_answer y_Mo_answer : Cond) ∈ gw := gw_of (List.mem_append_right _ (List.mem_append_right _ (List.mem_append_right _ (List.mem_append_right _ (List.mem_append_right _ (List.mem_of_getElem? (i := 67) (by decide +kernel))))))) rfl
theorem gm_948 : (Cond.code y_Mo_answer b_Mo_answer 2 (some .int) : Cond) ∈ gw := gw_of (List.mem_append_right _ (List.mem_append_right _ (List.mem_append_right _ (List.mem_append_right _ (List.mem_append_right _ (List.mem_of_getElem? (i := 68) (by decide +kernel))))))) rfl
theorem gm_949 : (Cond.methodLink R_La 101 y_Mo_count : Cond) ∈ gw := gw_of (List.mem_append_right _ (List.mem_append_right _ (List.mem_append_right _ (List.mem_append_right _ (List.mem_append_right _ (List.mem_of_getElem? (i := 69) (by decide +kernel))))))) rfl
theorem gm_950 : (Cond.instanceMethod y_Mo_count : Cond) ∈ gw := gw_of (List.mem_append_right _ (List.mem_append_right _ (List.mem_append_right _ (List.mem_append_right _ (List.mem_append_right _ (List.mem_of_getElem? (i := 70) (by decide +kernel))))))) rfl
theorem gm_951 : (Cond.selects R_Mo y_Mo_count y_Mo_count : Cond) ∈ gw := gw_of (List.mem_append_right _ (List.mem_append_right _ (List.mem_append_right _ (List.mem_append_right _ (List.mem_append_right _ (List.mem_of_getElem? (i := 71) (by decide +kernel))))))) rfl
theorem gm_952 : (Cond.code y_Mo_count b_Mo_count 2 (some .int) : Cond) ∈ gw := gw_of (List.mem_append_right _ (List.mem_append_right _ (List.mem_append_right _ (List.mem_append_right _ (List.mem_append_right _ (List.mem_of_getElem? (i := 72) (by decide +kernel))))))) rfl
theorem gm_953 : (Cond.arrayClass .long : Cond) ∈ gw := gw_of (List.mem_append_right _ (List.mem_append_right _ (List.mem_append_right _ (List.mem_append_right _ (List.mem_append_right _ (List.mem_of_getElem? (i := 73) (by decide +kernel))))))) rfl
theorem gm_954 : (Cond.selects R_Fu y_Fu_findWhatIsWrong y_Fu_findWhatIsWrong : Cond) ∈ gw := gw_sel (q := (y_Fu_findWhatIsWrong, 10)) (List.mem_append_left _ (List.mem_of_getElem? (i := 0) (by decide +kernel))) rfl
theorem gm_955 : (Cond.selects R_Ty y_Ty_typesWithValues y_Ty_typesWithValues : Cond) ∈ gw := gw_sel (q := (y_Ty_typesWithValues, 5)) (List.mem_append_left _ (List.mem_of_getElem? (i := 1) (by decide +kernel))) rfl
theorem gm_956 : (Cond.selects R_Ty y_Ty_isTyped y_Ty_isTyped : Cond) ∈ gw := gw_sel (q := (y_Ty_isTyped, 5)) (List.mem_append_left _ (List.mem_of_getElem? (i := 2) (by decide +kernel))) rfl
theorem gm_957 : (Cond.selects R_Ty y_Ty_isPatternOfType y_Ty_isPatternOfType : Cond) ∈ gw := gw_sel (q := (y_Ty_isPatternOfType, 5)) (List.mem_append_left _ (List.mem_of_getElem? (i := 3) (by decide +kernel))) rfl
theorem gm_958 : (Cond.selects R_Ty y_Ty_isOfType y_Ty_isOfType : Cond) ∈ gw := gw_sel (q := (y_Ty_isOfType, 5)) (List.mem_append_left _ (List.mem_of_getElem? (i := 4) (by decide +kernel))) rfl
theorem gm_959 : (Cond.selects R_Co y_Co_readPatterns y_Co_readPatterns : Cond) ∈ gw := gw_sel (q := (y_Co_readPatterns, 6)) (List.mem_append_left _ (List.mem_of_getElem? (i := 5) (by decide +kernel))) rfl
theorem gm_960 : (Cond.selects R_Co y_Co_readPattern y_Co_readPattern : Cond) ∈ gw := gw_sel (q := (y_Co_readPattern, 6)) (List.mem_append_left _ (List.mem_of_getElem? (i := 6) (by decide +kernel))) rfl
theorem gm_961 : (Cond.selects R_Co y_Co_isCovered y_Co_isCovered : Cond) ∈ gw := gw_sel (q := (y_Co_isCovered, 6)) (List.mem_append_left _ (List.mem_of_getElem? (i := 7) (by decide +kernel))) rfl
theorem gm_962 : (Cond.selects R_Co y_Co_compare y_Co_compare : Cond) ∈ gw := gw_sel (q := (y_Co_compare, 6)) (List.mem_append_left _ (List.mem_of_getElem? (i := 8) (by decide +kernel))) rfl
theorem gm_963 : (Cond.selects R_Co y_Co_isCoveredWhenSplit y_Co_isCoveredWhenSplit : Cond) ∈ gw := gw_sel (q := (y_Co_isCoveredWhenSplit, 6)) (List.mem_append_left _ (List.mem_of_getElem? (i := 9) (by decide +kernel))) rfl
theorem gm_964 : (Cond.selects R_Co y_Co_slotType y_Co_slotType : Cond) ∈ gw := gw_sel (q := (y_Co_slotType, 6)) (List.mem_append_left _ (List.mem_of_getElem? (i := 10) (by decide +kernel))) rfl
theorem gm_965 : (Cond.selects R_Co y_Co_constructorThatNoneNames y_Co_constructorThatNoneNames : Cond) ∈ gw := gw_sel (q := (y_Co_constructorThatNoneNames, 6)) (List.mem_append_left _ (List.mem_of_getElem? (i := 11) (by decide +kernel))) rfl
theorem gm_966 : (Cond.selects R_Co y_Co_isNamed y_Co_isNamed : Cond) ∈ gw := gw_sel (q := (y_Co_isNamed, 6)) (List.mem_append_left _ (List.mem_of_getElem? (i := 12) (by decide +kernel))) rfl
theorem gm_967 : (Cond.selects R_En y_En_collectCalls y_En_collectCalls : Cond) ∈ gw := gw_sel (q := (y_En_collectCalls, 9)) (List.mem_append_left _ (List.mem_of_getElem? (i := 13) (by decide +kernel))) rfl
theorem gm_968 : (Cond.selects R_En y_En_collectCallsIn y_En_collectCallsIn : Cond) ∈ gw := gw_sel (q := (y_En_collectCallsIn, 9)) (List.mem_append_left _ (List.mem_of_getElem? (i := 14) (by decide +kernel))) rfl
theorem gm_969 : (Cond.selects R_En y_En_graphOf y_En_graphOf : Cond) ∈ gw := gw_sel (q := (y_En_graphOf, 9)) (List.mem_append_left _ (List.mem_of_getElem? (i := 15) (by decide +kernel))) rfl
theorem gm_970 : (Cond.selects R_En y_En_isSame y_En_isSame : Cond) ∈ gw := gw_sel (q := (y_En_isSame, 9)) (List.mem_append_right _ (List.mem_append_left _ (List.mem_of_getElem? (i := 0) (by decide +kernel)))) rfl
theorem gm_971 : (Cond.selects R_En y_En_isInside y_En_isInside : Cond) ∈ gw := gw_sel (q := (y_En_isInside, 9)) (List.mem_append_right _ (List.mem_append_left _ (List.mem_of_getElem? (i := 1) (by decide +kernel)))) rfl
theorem gm_972 : (Cond.selects R_En y_En_addGraph y_En_addGraph : Cond) ∈ gw := gw_sel (q := (y_En_addGraph, 9)) (List.mem_append_right _ (List.mem_append_left _ (List.mem_of_getElem? (i := 2) (by decide +kernel)))) rfl
theorem gm_973 : (Cond.selects R_En y_En_addCompositions y_En_addCompositions : Cond) ∈ gw := gw_sel (q := (y_En_addCompositions, 9)) (List.mem_append_right _ (List.mem_append_left _ (List.mem_of_getElem? (i := 3) (by decide +kernel)))) rfl
theorem gm_974 : (Cond.selects R_Te y_Te_join y_Te_join : Cond) ∈ gw := gw_sel (q := (y_Te_join, 10)) (List.mem_append_right _ (List.mem_append_left _ (List.mem_of_getElem? (i := 5) (by decide +kernel)))) rfl
theorem gm_975 : (Cond.selects R_Fu y_Fu_areArguments y_Fu_areArguments : Cond) ∈ gw := gw_sel (q := (y_Fu_areArguments, 10)) (List.mem_append_right _ (List.mem_append_left _ (List.mem_of_getElem? (i := 6) (by decide +kernel)))) rfl
theorem gm_976 : (Cond.selects R_Ma y_Ma_hold y_Ma_hold : Cond) ∈ gw := gw_sel (q := (y_Ma_hold, 15)) (List.mem_append_right _ (List.mem_append_left _ (List.mem_of_getElem? (i := 7) (by decide +kernel)))) rfl
theorem gm_977 : (Cond.selects R_Ma y_Ma_step y_Ma_step : Cond) ∈ gw := gw_sel (q := (y_Ma_step, 15)) (List.mem_append_right _ (List.mem_append_left _ (List.mem_of_getElem? (i := 8) (by decide +kernel)))) rfl
theorem gm_978 : (Cond.selects R_Ma y_Ma_matchesAll y_Ma_matchesAll : Cond) ∈ gw := gw_sel (q := (y_Ma_matchesAll, 15)) (List.mem_append_right _ (List.mem_append_left _ (List.mem_of_getElem? (i := 9) (by decide +kernel)))) rfl
theorem gm_979 : (Cond.selects R_Ma y_Ma_matches y_Ma_matches : Cond) ∈ gw := gw_sel (q := (y_Ma_matches, 15)) (List.mem_append_right _ (List.mem_append_left _ (List.mem_of_getElem? (i := 10) (by decide +kernel)))) rfl
theorem gm_980 : (Cond.selects R_Ma y_Ma_open y_Ma_open : Cond) ∈ gw := gw_sel (q := (y_Ma_open, 15)) (List.mem_append_right _ (List.mem_append_left _ (List.mem_of_getElem? (i := 11) (by decide +kernel)))) rfl
theorem gm_981 : (Cond.selects R_Ma y_Ma_turn y_Ma_turn : Cond) ∈ gw := gw_sel (q := (y_Ma_turn, 15)) (List.mem_append_right _ (List.mem_append_left _ (List.mem_of_getElem? (i := 12) (by decide +kernel)))) rfl
theorem gm_982 : (Cond.selects R_Ma y_Ma_build y_Ma_build : Cond) ∈ gw := gw_sel (q := (y_Ma_build, 15)) (List.mem_append_right _ (List.mem_append_left _ (List.mem_of_getElem? (i := 13) (by decide +kernel)))) rfl
theorem gm_983 : (Cond.selects R_Ma y_Ma_writeAnswer y_Ma_writeAnswer : Cond) ∈ gw := gw_sel (q := (y_Ma_writeAnswer, 15)) (List.mem_append_right _ (List.mem_append_left _ (List.mem_of_getElem? (i := 14) (by decide +kernel)))) rfl
theorem gm_984 : (Cond.selects R_Mo y_Mo_build y_Mo_build : Cond) ∈ gw := gw_sel (q := (y_Mo_build, 45)) (List.mem_append_right _ (List.mem_append_left _ (List.mem_of_getElem? (i := 15) (by decide +kernel)))) rfl
theorem gm_985 : (Cond.selects R_Mo y_Mo_isTerm y_Mo_isTerm : Cond) ∈ gw := gw_sel (q := (y_Mo_isTerm, 45)) (List.mem_append_right _ (List.mem_append_right _ (List.mem_append_left _ (List.mem_of_getElem? (i := 0) (by decide +kernel))))) rfl
theorem gm_986 : (Cond.selects R_Mo y_Mo_isClause y_Mo_isClause : Cond) ∈ gw := gw_sel (q := (y_Mo_isClause, 45)) (List.mem_append_right _ (List.mem_append_right _ (List.mem_append_left _ (List.mem_of_getElem? (i := 1) (by decide +kernel))))) rfl
theorem gm_987 : (Cond.selects R_Mo y_Mo_isPattern y_Mo_isPattern : Cond) ∈ gw := gw_sel (q := (y_Mo_isPattern, 45)) (List.mem_append_right _ (List.mem_append_right _ (List.mem_append_left _ (List.mem_of_getElem? (i := 2) (by decide +kernel))))) rfl
theorem gm_988 : (Cond.selects R_Mo y_Mo_push y_Mo_push : Cond) ∈ gw := gw_sel (q := (y_Mo_push, 45)) (List.mem_append_right _ (List.mem_append_right _ (List.mem_append_left _ (List.mem_of_getElem? (i := 3) (by decide +kernel))))) rfl
theorem gm_989 : (Cond.selects R_Mo y_Mo_pushBelow y_Mo_pushBelow : Cond) ∈ gw := gw_sel (q := (y_Mo_pushBelow, 45)) (List.mem_append_right _ (List.mem_append_right _ (List.mem_append_left _ (List.mem_of_getElem? (i := 4) (by decide +kernel))))) rfl
theorem gm_990 : (Cond.selects R_Mo y_Mo_places y_Mo_places : Cond) ∈ gw := gw_sel (q := (y_Mo_places, 45)) (List.mem_append_right _ (List.mem_append_right _ (List.mem_append_left _ (List.mem_of_getElem? (i := 5) (by decide +kernel))))) rfl
theorem gm_991 : (Cond.selects R_Mo y_Mo_isBody y_Mo_isBody : Cond) ∈ gw := gw_sel (q := (y_Mo_isBody, 45)) (List.mem_append_right _ (List.mem_append_right _ (List.mem_append_left _ (List.mem_of_getElem? (i := 6) (by decide +kernel))))) rfl
theorem gm_992 : (Cond.selects R_Mo y_Mo_allInhabited y_Mo_allInhabited : Cond) ∈ gw := gw_sel (q := (y_Mo_allInhabited, 45)) (List.mem_append_right _ (List.mem_append_right _ (List.mem_append_left _ (List.mem_of_getElem? (i := 7) (by decide +kernel))))) rfl
theorem gm_993 : (Cond.selects R_Mo y_Mo_allTyped y_Mo_allTyped : Cond) ∈ gw := gw_sel (q := (y_Mo_allTyped, 45)) (List.mem_append_right _ (List.mem_append_right _ (List.mem_append_left _ (List.mem_of_getElem? (i := 8) (by decide +kernel))))) rfl
theorem gm_994 : (Cond.selects R_Mo y_Mo_isTyped y_Mo_isTyped : Cond) ∈ gw := gw_sel (q := (y_Mo_isTyped, 45)) (List.mem_append_right _ (List.mem_append_right _ (List.mem_append_left _ (List.mem_of_getElem? (i := 9) (by decide +kernel))))) rfl
theorem gm_995 : (Cond.selects R_Mo y_Mo_isCovered y_Mo_isCovered : Cond) ∈ gw := gw_sel (q := (y_Mo_isCovered, 45)) (List.mem_append_right _ (List.mem_append_right _ (List.mem_append_left _ (List.mem_of_getElem? (i := 10) (by decide +kernel))))) rfl
theorem gm_996 : (Cond.selects R_Mo y_Mo_stands y_Mo_stands : Cond) ∈ gw := gw_sel (q := (y_Mo_stands, 45)) (List.mem_append_right _ (List.mem_append_right _ (List.mem_append_left _ (List.mem_of_getElem? (i := 11) (by decide +kernel))))) rfl
theorem gm_997 : (Cond.selects R_Mo y_Mo_wants y_Mo_wants : Cond) ∈ gw := gw_sel (q := (y_Mo_wants, 45)) (List.mem_append_right _ (List.mem_append_right _ (List.mem_append_left _ (List.mem_of_getElem? (i := 12) (by decide +kernel))))) rfl
theorem gm_998 : (Cond.selects R_Mo y_Mo_splitAt y_Mo_splitAt : Cond) ∈ gw := gw_sel (q := (y_Mo_splitAt, 45)) (List.mem_append_right _ (List.mem_append_right _ (List.mem_append_left _ (List.mem_of_getElem? (i := 13) (by decide +kernel))))) rfl
theorem gm_999 : (Cond.selects R_Mo y_Mo_typeAt y_Mo_typeAt : Cond) ∈ gw := gw_sel (q := (y_Mo_typeAt, 45)) (List.mem_append_right _ (List.mem_append_right _ (List.mem_append_left _ (List.mem_of_getElem? (i := 14) (by decide +kernel))))) rfl
theorem gm_1000 : (Cond.selects R_Mo y_Mo_isEnding y_Mo_isEnding : Cond) ∈ gw := gw_sel (q := (y_Mo_isEnding, 45)) (List.mem_append_right _ (List.mem_append_right _ (List.mem_append_left _ (List.mem_of_getElem? (i := 15) (by decide +kernel))))) rfl
theorem gm_1001 : (Cond.selects R_Mo y_Mo_callGraphs y_Mo_callGraphs : Cond) ∈ gw := gw_sel (q := (y_Mo_callGraphs, 45)) (List.mem_append_right _ (List.mem_append_right _ (List.mem_append_right _ (List.mem_of_getElem? (i := 0) (by decide +kernel))))) rfl
theorem gm_1002 : (Cond.selects R_Mo y_Mo_callOf y_Mo_callOf : Cond) ∈ gw := gw_sel (q := (y_Mo_callOf, 45)) (List.mem_append_right _ (List.mem_append_right _ (List.mem_append_right _ (List.mem_of_getElem? (i := 1) (by decide +kernel))))) rfl
theorem gm_1003 : (Cond.selects R_Mo y_Mo_arcOf y_Mo_arcOf : Cond) ∈ gw := gw_sel (q := (y_Mo_arcOf, 45)) (List.mem_append_right _ (List.mem_append_right _ (List.mem_append_right _ (List.mem_of_getElem? (i := 2) (by decide +kernel))))) rfl
theorem gm_1004 : (Cond.selects R_Mo y_Mo_inside y_Mo_inside : Cond) ∈ gw := gw_sel (q := (y_Mo_inside, 45)) (List.mem_append_right _ (List.mem_append_right _ (List.mem_append_right _ (List.mem_of_getElem? (i := 3) (by decide +kernel))))) rfl
theorem gm_1005 : (Cond.selects R_Mo y_Mo_alike y_Mo_alike : Cond) ∈ gw := gw_sel (q := (y_Mo_alike, 45)) (List.mem_append_right _ (List.mem_append_right _ (List.mem_append_right _ (List.mem_of_getElem? (i := 4) (by decide +kernel))))) rfl
theorem gm_1006 : (Cond.selects R_Mo y_Mo_addGraph y_Mo_addGraph : Cond) ∈ gw := gw_sel (q := (y_Mo_addGraph, 45)) (List.mem_append_right _ (List.mem_append_right _ (List.mem_append_right _ (List.mem_of_getElem? (i := 5) (by decide +kernel))))) rfl
theorem gm_1007 : (Cond.selects R_Mo y_Mo_isClosed y_Mo_isClosed : Cond) ∈ gw := gw_sel (q := (y_Mo_isClosed, 45)) (List.mem_append_right _ (List.mem_append_right _ (List.mem_append_right _ (List.mem_of_getElem? (i := 6) (by decide +kernel))))) rfl
theorem gm_1008 : (Cond.selects R_Mo y_Mo_give y_Mo_give : Cond) ∈ gw := gw_sel (q := (y_Mo_give, 45)) (List.mem_append_right _ (List.mem_append_right _ (List.mem_append_right _ (List.mem_of_getElem? (i := 7) (by decide +kernel))))) rfl
theorem gm_1009 : (Cond.selects R_Mo y_Mo_doLater y_Mo_doLater : Cond) ∈ gw := gw_sel (q := (y_Mo_doLater, 45)) (List.mem_append_right _ (List.mem_append_right _ (List.mem_append_right _ (List.mem_of_getElem? (i := 8) (by decide +kernel))))) rfl
theorem gm_1010 : (Cond.selects R_Mo y_Mo_evaluate y_Mo_evaluate : Cond) ∈ gw := gw_sel (q := (y_Mo_evaluate, 45)) (List.mem_append_right _ (List.mem_append_right _ (List.mem_append_right _ (List.mem_of_getElem? (i := 9) (by decide +kernel))))) rfl
theorem gm_1011 : (Cond.selects R_Mo y_Mo_hold y_Mo_hold : Cond) ∈ gw := gw_sel (q := (y_Mo_hold, 45)) (List.mem_append_right _ (List.mem_append_right _ (List.mem_append_right _ (List.mem_of_getElem? (i := 10) (by decide +kernel))))) rfl
theorem gm_1012 : (Cond.selects R_Mo y_Mo_finished y_Mo_finished : Cond) ∈ gw := gw_sel (q := (y_Mo_finished, 45)) (List.mem_append_right _ (List.mem_append_right _ (List.mem_append_right _ (List.mem_of_getElem? (i := 11) (by decide +kernel))))) rfl
theorem gm_1013 : (Cond.selects R_Mo y_Mo_enter y_Mo_enter : Cond) ∈ gw := gw_sel (q := (y_Mo_enter, 45)) (List.mem_append_right _ (List.mem_append_right _ (List.mem_append_right _ (List.mem_of_getElem? (i := 12) (by decide +kernel))))) rfl
theorem gm_1014 : (Cond.selects R_Mo y_Mo_matches y_Mo_matches : Cond) ∈ gw := gw_sel (q := (y_Mo_matches, 45)) (List.mem_append_right _ (List.mem_append_right _ (List.mem_append_right _ (List.mem_of_getElem? (i := 13) (by decide +kernel))))) rfl
theorem gm_1015 : (Cond.selects R_Mo y_Mo_write y_Mo_write : Cond) ∈ gw := gw_sel (q := (y_Mo_write, 45)) (List.mem_append_right _ (List.mem_append_right _ (List.mem_append_right _ (List.mem_of_getElem? (i := 14) (by decide +kernel))))) rfl
theorem uk_Fu : ∀ k, k < 10 → u_lay R_Fu T_Fu k ∈ gw
  | 0, _ => gm_208
  | 1, _ => gm_209
  | 2, _ => gm_210
  | 3, _ => gm_211
  | 4, _ => gm_212
  | 5, _ => gm_213
  | 6, _ => gm_214
  | 7, _ => gm_215
  | 8, _ => gm_216
  | 9, _ => gm_217
  | k + 10, h => absurd h (by omega)
theorem uw_Fu : ∀ w ∈ u_ws R_Fu T_Fu 10, w ∈ gw := fun w h => (List.mem_map.mp h).elim fun k hk => hk.2 ▸ uk_Fu k (List.mem_range.mp hk.1)
theorem uk_Sg : ∀ k, k < 5 → u_lay R_Sg T_Sg k ∈ gw
  | 0, _ => gm_31
  | 1, _ => gm_32
  | 2, _ => gm_33
  | 3, _ => gm_34
  | 4, _ => gm_35
  | k + 5, h => absurd h (by omega)
theorem uw_Sg : ∀ w ∈ u_ws R_Sg T_Sg 5, w ∈ gw := fun w h => (List.mem_map.mp h).elim fun k hk => hk.2 ▸ uk_Sg k (List.mem_range.mp hk.1)
theorem uk_Te : ∀ k, k < 10 → u_lay R_Te T_Te k ∈ gw
  | 0, _ => gm_53
  | 1, _ => gm_54
  | 2, _ => gm_55
  | 3, _ => gm_56
  | 4, _ => gm_57
  | 5, _ => gm_58
  | 6, _ => gm_59
  | 7, _ => gm_60
  | 8, _ => gm_61
  | 9, _ => gm_62
  | k + 10, h => absurd h (by omega)
theorem uw_Te : ∀ w ∈ u_ws R_Te T_Te 10, w ∈ gw := fun w h => (List.mem_map.mp h).elim fun k hk => hk.2 ▸ uk_Te k (List.mem_range.mp hk.1)
theorem uk_Cl : ∀ k, k < 8 → u_lay R_Cl T_Cl k ∈ gw
  | 0, _ => gm_78
  | 1, _ => gm_79
  | 2, _ => gm_80
  | 3, _ => gm_81
  | 4, _ => gm_82
  | 5, _ => gm_83
  | 6, _ => gm_84
  | 7, _ => gm_85
  | k + 8, h => absurd h (by omega)
theorem uw_Cl : ∀ w ∈ u_ws R_Cl T_Cl 8, w ∈ gw := fun w h => (List.mem_map.mp h).elim fun k hk => hk.2 ▸ uk_Cl k (List.mem_range.mp hk.1)
theorem uk_Ty : ∀ k, k < 5 → u_lay R_Ty T_Ty k ∈ gw
  | 0, _ => gm_97
  | 1, _ => gm_98
  | 2, _ => gm_99
  | 3, _ => gm_100
  | 4, _ => gm_101
  | k + 5, h => absurd h (by omega)
theorem uw_Ty : ∀ w ∈ u_ws R_Ty T_Ty 5, w ∈ gw := fun w h => (List.mem_map.mp h).elim fun k hk => hk.2 ▸ uk_Ty k (List.mem_range.mp hk.1)
theorem uk_Co : ∀ k, k < 6 → u_lay R_Co T_Co k ∈ gw
  | 0, _ => gm_114
  | 1, _ => gm_115
  | 2, _ => gm_116
  | 3, _ => gm_117
  | 4, _ => gm_118
  | 5, _ => gm_119
  | k + 6, h => absurd h (by omega)
theorem uw_Co : ∀ w ∈ u_ws R_Co T_Co 6, w ∈ gw := fun w h => (List.mem_map.mp h).elim fun k hk => hk.2 ▸ uk_Co k (List.mem_range.mp hk.1)
theorem uk_En : ∀ k, k < 9 → u_lay R_En T_En k ∈ gw
  | 0, _ => gm_135
  | 1, _ => gm_136
  | 2, _ => gm_137
  | 3, _ => gm_138
  | 4, _ => gm_139
  | 5, _ => gm_140
  | 6, _ => gm_141
  | 7, _ => gm_142
  | 8, _ => gm_143
  | k + 9, h => absurd h (by omega)
theorem uw_En : ∀ w ∈ u_ws R_En T_En 9, w ∈ gw := fun w h => (List.mem_map.mp h).elim fun k hk => hk.2 ▸ uk_En k (List.mem_range.mp hk.1)
theorem uk_Va : ∀ k, k < 6 → u_lay R_Va T_Va k ∈ gw
  | 0, _ => gm_162
  | 1, _ => gm_163
  | 2, _ => gm_164
  | 3, _ => gm_165
  | 4, _ => gm_166
  | 5, _ => gm_167
  | k + 6, h => absurd h (by omega)
theorem uw_Va : ∀ w ∈ u_ws R_Va T_Va 6, w ∈ gw := fun w h => (List.mem_map.mp h).elim fun k hk => hk.2 ▸ uk_Va k (List.mem_range.mp hk.1)
theorem uk_Ma : ∀ k, k < 15 → u_lay R_Ma T_Ma k ∈ gw
  | 0, _ => gm_183
  | 1, _ => gm_184
  | 2, _ => gm_185
  | 3, _ => gm_186
  | 4, _ => gm_187
  | 5, _ => gm_188
  | 6, _ => gm_189
  | 7, _ => gm_190
  | 8, _ => gm_191
  | 9, _ => gm_192
  | 10, _ => gm_193
  | 11, _ => gm_194
  | 12, _ => gm_195
  | 13, _ => gm_196
  | 14, _ => gm_197
  | k + 15, h => absurd h (by omega)
theorem uw_Ma : ∀ w ∈ u_ws R_Ma T_Ma 15, w ∈ gw := fun w h => (List.mem_map.mp h).elim fun k hk => hk.2 ▸ uk_Ma k (List.mem_range.mp hk.1)
theorem uk_Mo : ∀ k, k < 45 → u_lay R_Mo T_Mo k ∈ gw
  | 0, _ => gm_740
  | 1, _ => gm_741
  | 2, _ => gm_742
  | 3, _ => gm_743
  | 4, _ => gm_744
  | 5, _ => gm_745
  | 6, _ => gm_746
  | 7, _ => gm_747
  | 8, _ => gm_748
  | 9, _ => gm_749
  | 10, _ => gm_750
  | 11, _ => gm_751
  | 12, _ => gm_752
  | 13, _ => gm_753
  | 14, _ => gm_754
  | 15, _ => gm_755
  | 16, _ => gm_756
  | 17, _ => gm_757
  | 18, _ => gm_758
  | 19, _ => gm_759
  | 20, _ => gm_760
  | 21, _ => gm_761
  | 22, _ => gm_762
  | 23, _ => gm_763
  | 24, _ => gm_764
  | 25, _ => gm_765
  | 26, _ => gm_766
  | 27, _ => gm_767
  | 28, _ => gm_768
  | 29, _ => gm_769
  | 30, _ => gm_770
  | 31, _ => gm_771
  | 32, _ => gm_772
  | 33, _ => gm_773
  | 34, _ => gm_774
  | 35, _ => gm_775
  | 36, _ => gm_776
  | 37, _ => gm_777
  | 38, _ => gm_778
  | 39, _ => gm_779
  | 40, _ => gm_780
  | 41, _ => gm_781
  | 42, _ => gm_782
  | 43, _ => gm_783
  | 44, _ => gm_784
  | k + 45, h => absurd h (by omega)
theorem uw_Mo : ∀ w ∈ u_ws R_Mo T_Mo 45, w ∈ gw := fun w h => (List.mem_map.mp h).elim fun k hk => hk.2 ▸ uk_Mo k (List.mem_range.mp hk.1)

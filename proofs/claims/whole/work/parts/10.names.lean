/-! NAMES, by program (wip/whole/tools/gen_names.py): classes, methods, and the tables' words that instructions need -/
theorem wI {i : Nat} {w : Cond} (h : tables_1[i]? = some w) : w ∈ lw_tbl := List.mem_append_right _ (List.mem_of_getElem? h)
theorem wP {i : Nat} {w : Cond} (h : (k2_sels lw_privs)[i]? = some w) : w ∈ lw_tbl := List.mem_append_left _ (List.mem_of_getElem? h)
def gKV (K : String) (Y : gY) (n : Nat) : Prop := Cond.instanceMethod Y.1 ∈ lw_tbl ∧ Cond.selects K Y.1 Y.1 ∈ lw_tbl ∧ gWord Y ∈ lw_tbl ∧ gWarm (gWord Y) = true ∧ Cond.initialized Y.1.cls ∈ lw_tbl ∧ (Y.1.cls ≠ "java/lang/invoke/MethodHandle" ∧ Y.1.cls ≠ "java/lang/invoke/VarHandle") ∧ (parseMethodDescriptor Y.1.desc).map (fun d => d.parameters.length) = some n ∧ Y.2.2.1 ≤ 41
def gKS (Y : gY) (n : Nat) : Prop := Cond.static Y.1 ∈ lw_tbl ∧ gWord Y ∈ lw_tbl ∧ gWarm (gWord Y) = true ∧ Cond.initialized Y.1.cls ∈ lw_tbl ∧ (Y.1.cls ≠ "java/lang/invoke/MethodHandle" ∧ Y.1.cls ≠ "java/lang/invoke/VarHandle") ∧ (parseMethodDescriptor Y.1.desc).map (fun d => d.parameters.length) = some n ∧ Y.2.2.1 ≤ 41
def gKI (y : MethodName) (cc : ByteArray) (maxL n : Nat) : Prop := y.name = "<init>" ∧ Cond.instanceMethod y ∈ lw_tbl ∧ Cond.code y cc maxL none ∈ lw_tbl ∧ Cond.initialized y.cls ∈ lw_tbl ∧ (y.cls ≠ "java/lang/invoke/MethodHandle" ∧ y.cls ≠ "java/lang/invoke/VarHandle") ∧ (parseMethodDescriptor y.desc).map (fun d => d.parameters.length) = some n ∧ maxL ≤ 41
def gIns (C : String) (N : Nat) : Prop := Cond.instantiable C N ∈ lw_tbl ∧ Cond.initialized C ∈ lw_tbl
def C_ArrayList : String := "java/util/ArrayList"
def T_ArrayList : u_T := fun k => match k with
  | 0 => ("java/util/AbstractList", "modCount", "I", false)
  | 1 => ("java/util/ArrayList", "elementData", "[Ljava/lang/Object;", false)
  | _ => ("java/util/ArrayList", "size", "I", false)
def t_ArrayList : Nat → FieldType := fun k => match k with
  | 0 => .int
  | 1 => .array (.object "java/lang/Object")
  | _ => .int
def C_Cases : String := "MatchMill$Cases"
def T_Cases : u_T := fun k => match k with
  | 0 => ("MatchMill$Cases", "patterns", "[LMatchMill$Term;", true)
  | 1 => ("MatchMill$Cases", "guarded", "[Z", true)
  | _ => ("MatchMill$Cases", "count", "I", false)
def t_Cases : Nat → FieldType := fun k => match k with
  | 0 => .array (.object "MatchMill$Term")
  | 1 => .array .boolean
  | _ => .int
def C_Passage : String := "MatchMill$Passage"
def T_Passage : u_T := fun k => match k with
  | 0 => ("MatchMill$Passage", "questions", "[I", true)
  | 1 => ("MatchMill$Passage", "termOfName", "[LMatchMill$Term;", true)
  | 2 => ("MatchMill$Passage", "met", "Ljava/util/ArrayList;", true)
  | _ => ("MatchMill$Passage", "length", "I", false)
def t_Passage : Nat → FieldType := fun k => match k with
  | 0 => .array .int
  | 1 => .array (.object "MatchMill$Term")
  | 2 => .object "java/util/ArrayList"
  | _ => .int
def C_Pile : String := "MatchMill$Pile"
def T_Pile : u_T := fun k => match k with
  | 0 => ("MatchMill$Pile", "terms", "[LMatchMill$Term;", true)
  | _ => ("MatchMill$Pile", "height", "I", false)
def t_Pile : Nat → FieldType := fun k => match k with
  | 0 => .array (.object "MatchMill$Term")
  | _ => .int
def C_Place : String := "MatchMill$Place"
def T_Place : u_T := fun k => match k with
  | 0 => ("MatchMill$Place", "distance", "I", false)
  | 1 => ("MatchMill$Place", "kind", "I", false)
  | 2 => ("MatchMill$Place", "what", "I", false)
  | 3 => ("MatchMill$Place", "firstPart", "I", false)
  | _ => ("MatchMill$Place", "parts", "I", false)
def t_Place : Nat → FieldType := fun k => match k with
  | 0 => .int
  | 1 => .int
  | 2 => .int
  | 3 => .int
  | _ => .int
def C_Places : String := "MatchMill$Places"
def T_Places : u_T := fun k => match k with
  | 0 => ("MatchMill$Places", "places", "Ljava/util/ArrayList;", true)
  | _ => ("MatchMill$Places", "count", "I", false)
def t_Places : Nat → FieldType := fun k => match k with
  | 0 => .object "java/util/ArrayList"
  | _ => .int
def C_Question : String := "MatchMill$Question"
def T_Question : u_T := fun k => match k with
  | 0 => ("MatchMill$Question", "firstRow", "I", false)
  | 1 => ("MatchMill$Question", "rows", "I", false)
  | 2 => ("MatchMill$Question", "place", "I", false)
  | 3 => ("MatchMill$Question", "distance", "I", false)
  | 4 => ("MatchMill$Question", "places", "I", false)
  | 5 => ("MatchMill$Question", "ofNumbers", "Z", false)
  | 6 => ("MatchMill$Question", "firstNumber", "I", false)
  | 7 => ("MatchMill$Question", "answers", "I", false)
  | 8 => ("MatchMill$Question", "before", "I", false)
  | 9 => ("MatchMill$Question", "up", "I", false)
  | 10 => ("MatchMill$Question", "via", "I", false)
  | _ => ("MatchMill$Question", "followed", "I", false)
def t_Question : Nat → FieldType := fun k => match k with
  | 0 => .int
  | 1 => .int
  | 2 => .int
  | 3 => .int
  | 4 => .int
  | 5 => .boolean
  | 6 => .int
  | 7 => .int
  | 8 => .int
  | 9 => .int
  | 10 => .int
  | _ => .int
def C_Row : String := "MatchMill$Row"
def T_Row : u_T := fun k => match k with
  | 0 => ("MatchMill$Row", "places", "[I", true)
  | 1 => ("MatchMill$Row", "wished", "[LMatchMill$Term;", true)
  | 2 => ("MatchMill$Row", "placeOfName", "[I", true)
  | 3 => ("MatchMill$Row", "owner", "I", false)
  | _ => ("MatchMill$Row", "wishes", "I", false)
def t_Row : Nat → FieldType := fun k => match k with
  | 0 => .array .int
  | 1 => .array (.object "MatchMill$Term")
  | 2 => .array .int
  | 3 => .int
  | _ => .int
def C_Rows : String := "MatchMill$Rows"
def T_Rows : u_T := fun k => match k with
  | 0 => ("MatchMill$Rows", "rows", "Ljava/util/ArrayList;", true)
  | _ => ("MatchMill$Rows", "count", "I", false)
def t_Rows : Nat → FieldType := fun k => match k with
  | 0 => .object "java/util/ArrayList"
  | _ => .int
def C_Term : String := "MatchMill$Term"
def T_Term : u_T := fun k => match k with
  | 0 => ("MatchMill$Term", "type", "I", true)
  | 1 => ("MatchMill$Term", "kind", "I", true)
  | 2 => ("MatchMill$Term", "what", "I", true)
  | 3 => ("MatchMill$Term", "parts", "[LMatchMill$Term;", true)
  | 4 => ("MatchMill$Term", "size", "I", true)
  | 5 => ("MatchMill$Term", "ownNames", "I", false)
  | _ => ("MatchMill$Term", "names", "I", false)
def t_Term : Nat → FieldType := fun k => match k with
  | 0 => .int
  | 1 => .int
  | 2 => .int
  | 3 => .array (.object "MatchMill$Term")
  | 4 => .int
  | 5 => .int
  | _ => .int
def C_Tree : String := "MatchMill$Tree"
def T_Tree : u_T := fun k => match k with
  | 0 => ("MatchMill$Tree", "types", "LMatchMill$Types;", true)
  | 1 => ("MatchMill$Tree", "cases", "LMatchMill$Cases;", true)
  | 2 => ("MatchMill$Tree", "rows", "LMatchMill$Rows;", true)
  | 3 => ("MatchMill$Tree", "places", "LMatchMill$Places;", true)
  | 4 => ("MatchMill$Tree", "questions", "Ljava/util/ArrayList;", true)
  | 5 => ("MatchMill$Tree", "numbers", "[I", true)
  | 6 => ("MatchMill$Tree", "missing", "[I", true)
  | 7 => ("MatchMill$Tree", "count", "I", false)
  | 8 => ("MatchMill$Tree", "numbersKept", "I", false)
  | 9 => ("MatchMill$Tree", "missingLength", "I", false)
  | 10 => ("MatchMill$Tree", "takenCases", "I", false)
  | 11 => ("MatchMill$Tree", "takes", "I", false)
  | 12 => ("MatchMill$Tree", "fails", "I", false)
  | _ => ("MatchMill$Tree", "longest", "I", false)
def t_Tree : Nat → FieldType := fun k => match k with
  | 0 => .object "MatchMill$Types"
  | 1 => .object "MatchMill$Cases"
  | 2 => .object "MatchMill$Rows"
  | 3 => .object "MatchMill$Places"
  | 4 => .object "java/util/ArrayList"
  | 5 => .array .int
  | 6 => .array .int
  | 7 => .int
  | 8 => .int
  | 9 => .int
  | 10 => .int
  | 11 => .int
  | 12 => .int
  | _ => .int
def C_Types : String := "MatchMill$Types"
def T_Types : u_T := fun k => match k with
  | 0 => ("MatchMill$Types", "constructors", "[I", true)
  | 1 => ("MatchMill$Types", "arities", "[I", true)
  | _ => ("MatchMill$Types", "arguments", "[I", true)
def t_Types : Nat → FieldType := fun k => match k with
  | 0 => .array .int
  | 1 => .array .int
  | _ => .array .int
def C_Mill : String := "MatchMill"
def T_Mill : u_T := fun k => match k with
  | 0 => ("MatchMill", "types", "LMatchMill$Types;", true)
  | 1 => ("MatchMill", "patterns", "LMatchMill$Pile;", true)
  | 2 => ("MatchMill", "values", "LMatchMill$Pile;", true)
  | 3 => ("MatchMill", "cases", "LMatchMill$Cases;", true)
  | 4 => ("MatchMill", "tree", "LMatchMill$Tree;", true)
  | 5 => ("MatchMill", "latest", "LMatchMill$Passage;", true)
  | 6 => ("MatchMill", "anyMade", "Z", false)
  | 7 => ("MatchMill", "built", "Z", false)
  | _ => ("MatchMill", "tooGreat", "Z", false)
def t_Mill : Nat → FieldType := fun k => match k with
  | 0 => .object "MatchMill$Types"
  | 1 => .object "MatchMill$Pile"
  | 2 => .object "MatchMill$Pile"
  | 3 => .object "MatchMill$Cases"
  | 4 => .object "MatchMill$Tree"
  | 5 => .object "MatchMill$Passage"
  | 6 => .boolean
  | 7 => .boolean
  | _ => .boolean
def C_Model : String := "MatchMillModel"
def T_Model : u_T := fun k => match k with
  | 0 => ("MatchMillModel", "code", "I", false)
  | 1 => ("MatchMillModel", "types", "[I", true)
  | 2 => ("MatchMillModel", "arguments", "[I", true)
  | 3 => ("MatchMillModel", "argumentTypes", "[I", true)
  | 4 => ("MatchMillModel", "begun", "Z", false)
  | 5 => ("MatchMillModel", "nodes", "I", false)
  | 6 => ("MatchMillModel", "kinds", "[I", true)
  | 7 => ("MatchMillModel", "nodeTypes", "[I", true)
  | 8 => ("MatchMillModel", "whats", "[I", true)
  | 9 => ("MatchMillModel", "parts", "[I", true)
  | 10 => ("MatchMillModel", "sizes", "[I", true)
  | 11 => ("MatchMillModel", "names", "[I", true)
  | 12 => ("MatchMillModel", "patterns", "[I", true)
  | 13 => ("MatchMillModel", "values", "[I", true)
  | 14 => ("MatchMillModel", "patternCount", "I", false)
  | 15 => ("MatchMillModel", "valueCount", "I", false)
  | 16 => ("MatchMillModel", "cases", "I", false)
  | 17 => ("MatchMillModel", "casePatterns", "[I", true)
  | 18 => ("MatchMillModel", "guarded", "[Z", true)
  | 19 => ("MatchMillModel", "built", "Z", false)
  | 20 => ("MatchMillModel", "questions", "I", false)
  | 21 => ("MatchMillModel", "takes", "I", false)
  | 22 => ("MatchMillModel", "fails", "I", false)
  | 23 => ("MatchMillModel", "longest", "I", false)
  | 24 => ("MatchMillModel", "used", "I", false)
  | 25 => ("MatchMillModel", "missingCount", "I", false)
  | 26 => ("MatchMillModel", "rowsAsked", "I", false)
  | 27 => ("MatchMillModel", "missing", "[I", true)
  | 28 => ("MatchMillModel", "questionRows", "[I", true)
  | 29 => ("MatchMillModel", "questionAnswers", "[I", true)
  | 30 => ("MatchMillModel", "questionBefore", "[I", true)
  | 31 => ("MatchMillModel", "questionDepth", "[I", true)
  | 32 => ("MatchMillModel", "questionParent", "[I", true)
  | 33 => ("MatchMillModel", "questionBy", "[I", true)
  | 34 => ("MatchMillModel", "places", "I", false)
  | 35 => ("MatchMillModel", "placeDepth", "[I", true)
  | 36 => ("MatchMillModel", "placeType", "[I", true)
  | 37 => ("MatchMillModel", "inner", "[I", true)
  | 38 => ("MatchMillModel", "answered", "[I", true)
  | 39 => ("MatchMillModel", "answeredNumber", "[I", true)
  | 40 => ("MatchMillModel", "valueAt", "[I", true)
  | 41 => ("MatchMillModel", "rowCase", "[I", true)
  | 42 => ("MatchMillModel", "rowMany", "[I", true)
  | 43 => ("MatchMillModel", "wishPlace", "[I", true)
  | 44 => ("MatchMillModel", "wishPattern", "[I", true)
  | 45 => ("MatchMillModel", "binds", "[I", true)
  | 46 => ("MatchMillModel", "rows", "I", false)
  | 47 => ("MatchMillModel", "tooMuch", "Z", false)
  | 48 => ("MatchMillModel", "stepFirst", "[I", true)
  | 49 => ("MatchMillModel", "stepRows", "[I", true)
  | 50 => ("MatchMillModel", "stepQuestion", "[I", true)
  | 51 => ("MatchMillModel", "stepAnswer", "[I", true)
  | 52 => ("MatchMillModel", "stepPlace", "[I", true)
  | 53 => ("MatchMillModel", "stack", "[I", true)
  | 54 => ("MatchMillModel", "askedCount", "I", false)
  | 55 => ("MatchMillModel", "askedQuestions", "[I", true)
  | 56 => ("MatchMillModel", "bound", "[I", true)
  | 57 => ("MatchMillModel", "told", "[I", true)
  | 58 => ("MatchMillModel", "toldCount", "I", false)
  | _ => ("MatchMillModel", "boundFor", "I", false)
def t_Model : Nat → FieldType := fun k => match k with
  | 0 => .int
  | 1 => .array .int
  | 2 => .array .int
  | 3 => .array .int
  | 4 => .boolean
  | 5 => .int
  | 6 => .array .int
  | 7 => .array .int
  | 8 => .array .int
  | 9 => .array .int
  | 10 => .array .int
  | 11 => .array .int
  | 12 => .array .int
  | 13 => .array .int
  | 14 => .int
  | 15 => .int
  | 16 => .int
  | 17 => .array .int
  | 18 => .array .boolean
  | 19 => .boolean
  | 20 => .int
  | 21 => .int
  | 22 => .int
  | 23 => .int
  | 24 => .int
  | 25 => .int
  | 26 => .int
  | 27 => .array .int
  | 28 => .array .int
  | 29 => .array .int
  | 30 => .array .int
  | 31 => .array .int
  | 32 => .array .int
  | 33 => .array .int
  | 34 => .int
  | 35 => .array .int
  | 36 => .array .int
  | 37 => .array .int
  | 38 => .array .int
  | 39 => .array .int
  | 40 => .array .int
  | 41 => .array .int
  | 42 => .array .int
  | 43 => .array .int
  | 44 => .array .int
  | 45 => .array .int
  | 46 => .int
  | 47 => .boolean
  | 48 => .array .int
  | 49 => .array .int
  | 50 => .array .int
  | 51 => .array .int
  | 52 => .array .int
  | 53 => .array .int
  | 54 => .int
  | 55 => .array .int
  | 56 => .array .int
  | 57 => .array .int
  | 58 => .int
  | _ => .int
def gCl : List vw_C := [(C_ArrayList, T_ArrayList, 3), (C_Cases, T_Cases, 3), (C_Passage, T_Passage, 4), (C_Pile, T_Pile, 2), (C_Place, T_Place, 5), (C_Places, T_Places, 2), (C_Question, T_Question, 12), (C_Row, T_Row, 5), (C_Rows, T_Rows, 2), (C_Term, T_Term, 7), (C_Tree, T_Tree, 14), (C_Types, T_Types, 3), (C_Mill, T_Mill, 9), (C_Model, T_Model, 60)]
set_option maxRecDepth 100000 in
theorem kc_ArrayList : gCls gCl 0 C_ArrayList T_ArrayList 3 t_ArrayList := ⟨rfl, by decide +kernel, by decide +kernel, by decide +kernel⟩
set_option maxRecDepth 100000 in
theorem kc_Cases : gCls gCl 1 C_Cases T_Cases 3 t_Cases := ⟨rfl, by decide +kernel, by decide +kernel, by decide +kernel⟩
set_option maxRecDepth 100000 in
theorem kc_Passage : gCls gCl 2 C_Passage T_Passage 4 t_Passage := ⟨rfl, by decide +kernel, by decide +kernel, by decide +kernel⟩
set_option maxRecDepth 100000 in
theorem kc_Pile : gCls gCl 3 C_Pile T_Pile 2 t_Pile := ⟨rfl, by decide +kernel, by decide +kernel, by decide +kernel⟩
set_option maxRecDepth 100000 in
theorem kc_Place : gCls gCl 4 C_Place T_Place 5 t_Place := ⟨rfl, by decide +kernel, by decide +kernel, by decide +kernel⟩
set_option maxRecDepth 100000 in
theorem kc_Places : gCls gCl 5 C_Places T_Places 2 t_Places := ⟨rfl, by decide +kernel, by decide +kernel, by decide +kernel⟩
set_option maxRecDepth 100000 in
theorem kc_Question : gCls gCl 6 C_Question T_Question 12 t_Question := ⟨rfl, by decide +kernel, by decide +kernel, by decide +kernel⟩
set_option maxRecDepth 100000 in
theorem kc_Row : gCls gCl 7 C_Row T_Row 5 t_Row := ⟨rfl, by decide +kernel, by decide +kernel, by decide +kernel⟩
set_option maxRecDepth 100000 in
theorem kc_Rows : gCls gCl 8 C_Rows T_Rows 2 t_Rows := ⟨rfl, by decide +kernel, by decide +kernel, by decide +kernel⟩
set_option maxRecDepth 100000 in
theorem kc_Term : gCls gCl 9 C_Term T_Term 7 t_Term := ⟨rfl, by decide +kernel, by decide +kernel, by decide +kernel⟩
set_option maxRecDepth 100000 in
theorem kc_Tree : gCls gCl 10 C_Tree T_Tree 14 t_Tree := ⟨rfl, by decide +kernel, by decide +kernel, by decide +kernel⟩
set_option maxRecDepth 100000 in
theorem kc_Types : gCls gCl 11 C_Types T_Types 3 t_Types := ⟨rfl, by decide +kernel, by decide +kernel, by decide +kernel⟩
set_option maxRecDepth 100000 in
theorem kc_Mill : gCls gCl 12 C_Mill T_Mill 9 t_Mill := ⟨rfl, by decide +kernel, by decide +kernel, by decide +kernel⟩
set_option maxRecDepth 100000 in
theorem kc_Model : gCls gCl 13 C_Model T_Model 60 t_Model := ⟨rfl, by decide +kernel, by decide +kernel, by decide +kernel⟩
theorem ki_ArrayList : gIns C_ArrayList 3 := ⟨wI (i := 104) (by decide +kernel), wI (i := 10) (by decide +kernel)⟩
theorem ki_Cases : gIns C_Cases 3 := ⟨wI (i := 59) (by decide +kernel), wI (i := 4) (by decide +kernel)⟩
theorem ki_Passage : gIns C_Passage 4 := ⟨wI (i := 197) (by decide +kernel), wI (i := 12) (by decide +kernel)⟩
theorem ki_Pile : gIns C_Pile 2 := ⟨wI (i := 78) (by decide +kernel), wI (i := 5) (by decide +kernel)⟩
theorem ki_Place : gIns C_Place 5 := ⟨wI (i := 640) (by decide +kernel), wI (i := 22) (by decide +kernel)⟩
theorem ki_Places : gIns C_Places 2 := ⟨wI (i := 137) (by decide +kernel), wI (i := 11) (by decide +kernel)⟩
theorem ki_Question : gIns C_Question 12 := ⟨wI (i := 865) (by decide +kernel), wI (i := 28) (by decide +kernel)⟩
theorem ki_Row : gIns C_Row 5 := ⟨wI (i := 759) (by decide +kernel), wI (i := 27) (by decide +kernel)⟩
theorem ki_Rows : gIns C_Rows 2 := ⟨wI (i := 98) (by decide +kernel), wI (i := 7) (by decide +kernel)⟩
theorem ki_Term : gIns C_Term 7 := ⟨wI (i := 450) (by decide +kernel), wI (i := 19) (by decide +kernel)⟩
theorem ki_Tree : gIns C_Tree 14 := ⟨wI (i := 92) (by decide +kernel), wI (i := 6) (by decide +kernel)⟩
theorem ki_Types : gIns C_Types 3 := ⟨wI (i := 39) (by decide +kernel), wI (i := 2) (by decide +kernel)⟩
theorem ki_Mill : gIns C_Mill 9 := ⟨wI (i := 31) (by decide +kernel), wI (i := 1) (by decide +kernel)⟩
theorem ki_Model : gIns C_Model 60 := ⟨wI (i := 1109) (by decide +kernel), wI (i := 13) (by decide +kernel)⟩
def y_Mill_init : MethodName := ⟨"MatchMill", "<init>", "()V"⟩
def Y_Mill_init : gY := (y_Mill_init, prog_1_method_1_code, 3, none, [])
def y_Object_init : MethodName := ⟨"java/lang/Object", "<init>", "()V"⟩
def Y_Object_init : gY := (y_Object_init, object_method_1_code, 1, none, [])
def y_Types_init : MethodName := ⟨"MatchMill$Types", "<init>", "()V"⟩
def Y_Types_init : gY := (y_Types_init, prog_12_method_1_code, 1, none, [])
def y_Arrays_fill : MethodName := ⟨"java/util/Arrays", "fill", "([II)V"⟩
def Y_Arrays_fill : gY := (y_Arrays_fill, prog_30_method_103_code, 4, none, [])
def y_Cases_init : MethodName := ⟨"MatchMill$Cases", "<init>", "()V"⟩
def Y_Cases_init : gY := (y_Cases_init, prog_2_method_1_code, 1, none, [])
def y_Pile_init : MethodName := ⟨"MatchMill$Pile", "<init>", "()V"⟩
def Y_Pile_init : gY := (y_Pile_init, prog_4_method_1_code, 1, none, [])
def y_Tree_init : MethodName := ⟨"MatchMill$Tree", "<init>", "(LMatchMill$Types;LMatchMill$Cases;)V"⟩
def Y_Tree_init : gY := (y_Tree_init, prog_11_method_1_code, 3, none, [])
def y_Rows_init : MethodName := ⟨"MatchMill$Rows", "<init>", "()V"⟩
def Y_Rows_init : gY := (y_Rows_init, prog_9_method_1_code, 1, none, [])
def y_ArrayList_init : MethodName := ⟨"java/util/ArrayList", "<init>", "()V"⟩
def Y_ArrayList_init : gY := (y_ArrayList_init, prog_29_method_2_code, 1, none, [])
def y_AbstractList_init : MethodName := ⟨"java/util/AbstractList", "<init>", "()V"⟩
def Y_AbstractList_init : gY := (y_AbstractList_init, prog_28_method_1_code, 1, none, [])
def y_AbstractCollection_init : MethodName := ⟨"java/util/AbstractCollection", "<init>", "()V"⟩
def Y_AbstractCollection_init : gY := (y_AbstractCollection_init, prog_27_method_1_code, 1, none, [])
def y_Places_init : MethodName := ⟨"MatchMill$Places", "<init>", "()V"⟩
def Y_Places_init : gY := (y_Places_init, prog_6_method_1_code, 1, none, [])
def y_Passage_init : MethodName := ⟨"MatchMill$Passage", "<init>", "()V"⟩
def Y_Passage_init : gY := (y_Passage_init, prog_3_method_1_code, 1, none, [])
def y_Mill_pop : MethodName := ⟨"MatchMill", "pop", "(Z)I"⟩
def Y_Mill_pop : gY := (y_Mill_pop, prog_1_method_9_code, 4, some FieldType.int, [])
def y_Mill_pileOf : MethodName := ⟨"MatchMill", "pileOf", "(Z)LMatchMill$Pile;"⟩
def Y_Mill_pileOf : gY := (y_Mill_pileOf, prog_1_method_23_code, 2, some (FieldType.object "MatchMill$Pile"), [])
def y_Pile_fromTop : MethodName := ⟨"MatchMill$Pile", "fromTop", "(I)LMatchMill$Term;"⟩
def Y_Pile_fromTop : gY := (y_Pile_fromTop, prog_4_method_4_code, 2, some (FieldType.object "MatchMill$Term"), [])
def y_Pile_drop : MethodName := ⟨"MatchMill$Pile", "drop", "(I)V"⟩
def Y_Pile_drop : gY := (y_Pile_drop, prog_4_method_7_code, 2, none, [])
def y_Math_max : MethodName := ⟨"java/lang/Math", "max", "(II)I"⟩
def Y_Math_max : gY := (y_Math_max, prog_22_method_65_code, 2, some FieldType.int, [])
def y_Mill_asked : MethodName := ⟨"MatchMill", "asked", "(I)I"⟩
def Y_Mill_asked : gY := (y_Mill_asked, prog_1_method_13_code, 2, some FieldType.int, [])
def y_Passage_questionAt : MethodName := ⟨"MatchMill$Passage", "questionAt", "(I)I"⟩
def Y_Passage_questionAt : gY := (y_Passage_questionAt, prog_3_method_6_code, 2, some FieldType.int, [])
def y_Mill_missing : MethodName := ⟨"MatchMill", "missing", "(I)I"⟩
def Y_Mill_missing : gY := (y_Mill_missing, prog_1_method_16_code, 2, some FieldType.int, [])
def y_Tree_missingAt : MethodName := ⟨"MatchMill$Tree", "missingAt", "(I)I"⟩
def Y_Tree_missingAt : gY := (y_Tree_missingAt, prog_11_method_18_code, 2, some FieldType.int, [])
def y_Mill_unused : MethodName := ⟨"MatchMill", "unused", "(I)I"⟩
def Y_Mill_unused : gY := (y_Mill_unused, prog_1_method_17_code, 2, some FieldType.int, [])
def y_Tree_unusedAt : MethodName := ⟨"MatchMill$Tree", "unusedAt", "(I)I"⟩
def Y_Tree_unusedAt : gY := (y_Tree_unusedAt, prog_11_method_19_code, 4, some FieldType.int, [])
def y_Cases_size : MethodName := ⟨"MatchMill$Cases", "size", "()I"⟩
def Y_Cases_size : gY := (y_Cases_size, prog_2_method_2_code, 1, some FieldType.int, [])
def y_Mill_clear : MethodName := ⟨"MatchMill", "clear", "()V"⟩
def Y_Mill_clear : gY := (y_Mill_clear, prog_1_method_20_code, 1, none, [])
def y_Types_forget : MethodName := ⟨"MatchMill$Types", "forget", "()V"⟩
def Y_Types_forget : gY := (y_Types_forget, prog_12_method_2_code, 1, none, [])
def y_Pile_height : MethodName := ⟨"MatchMill$Pile", "height", "()I"⟩
def Y_Pile_height : gY := (y_Pile_height, prog_4_method_2_code, 1, some FieldType.int, [])
def y_Cases_forget : MethodName := ⟨"MatchMill$Cases", "forget", "()V"⟩
def Y_Cases_forget : gY := (y_Cases_forget, prog_2_method_3_code, 1, none, [])
def y_Passage_forget : MethodName := ⟨"MatchMill$Passage", "forget", "()V"⟩
def Y_Passage_forget : gY := (y_Passage_forget, prog_3_method_2_code, 2, none, [])
def y_ArrayList_clear : MethodName := ⟨"java/util/ArrayList", "clear", "()V"⟩
def Y_ArrayList_clear : gY := (y_ArrayList_clear, prog_29_method_40_code, 4, none, [])
def y_Mill_forgetTree : MethodName := ⟨"MatchMill", "forgetTree", "()V"⟩
def Y_Mill_forgetTree : gY := (y_Mill_forgetTree, prog_1_method_21_code, 1, none, [])
def y_Mill_type : MethodName := ⟨"MatchMill", "type", "(II)V"⟩
def Y_Mill_type : gY := (y_Mill_type, prog_1_method_2_code, 3, none, [])
def y_Types_canBe : MethodName := ⟨"MatchMill$Types", "canBe", "(I)Z"⟩
def Y_Types_canBe : gY := (y_Types_canBe, prog_12_method_3_code, 2, some FieldType.boolean, [])
def y_Throwable_init : MethodName := ⟨"java/lang/Throwable", "<init>", "()V"⟩
def Y_Throwable_init : gY := (y_Throwable_init, prog_25_method_1_code, 1, none, [])
def y_IAE_init : MethodName := ⟨"java/lang/IllegalArgumentException", "<init>", "()V"⟩
def Y_IAE_init : gY := (y_IAE_init, prog_18_method_1_code, 1, none, [])
def y_RuntimeException_init : MethodName := ⟨"java/lang/RuntimeException", "<init>", "()V"⟩
def Y_RuntimeException_init : gY := (y_RuntimeException_init, prog_23_method_1_code, 1, none, [])
def y_Exception_init : MethodName := ⟨"java/lang/Exception", "<init>", "()V"⟩
def Y_Exception_init : gY := (y_Exception_init, prog_17_method_1_code, 1, none, [])
def y_Types_isTold : MethodName := ⟨"MatchMill$Types", "isTold", "(I)Z"⟩
def Y_Types_isTold : gY := (y_Types_isTold, prog_12_method_4_code, 2, some FieldType.boolean, [])
def y_ISE_init : MethodName := ⟨"java/lang/IllegalStateException", "<init>", "()V"⟩
def Y_ISE_init : gY := (y_ISE_init, prog_19_method_1_code, 1, none, [])
def y_Types_tell : MethodName := ⟨"MatchMill$Types", "tell", "(II)V"⟩
def Y_Types_tell : gY := (y_Types_tell, prog_12_method_7_code, 3, none, [])
def y_Mill_argument : MethodName := ⟨"MatchMill", "argument", "(III)I"⟩
def Y_Mill_argument : gY := (y_Mill_argument, prog_1_method_3_code, 4, some FieldType.int, [])
def y_Types_hasConstructor : MethodName := ⟨"MatchMill$Types", "hasConstructor", "(II)Z"⟩
def Y_Types_hasConstructor : gY := (y_Types_hasConstructor, prog_12_method_6_code, 3, some FieldType.boolean, [])
def y_Types_arity : MethodName := ⟨"MatchMill$Types", "arity", "(II)I"⟩
def Y_Types_arity : gY := (y_Types_arity, prog_12_method_9_code, 3, some FieldType.int, [])
def y_Types_addArgument : MethodName := ⟨"MatchMill$Types", "addArgument", "(III)I"⟩
def Y_Types_addArgument : gY := (y_Types_addArgument, prog_12_method_10_code, 5, some FieldType.int, [])
def y_Mill_any : MethodName := ⟨"MatchMill", "any", "(I)I"⟩
def Y_Mill_any : gY := (y_Mill_any, prog_1_method_4_code, 2, some FieldType.int, [])
def y_Term_init : MethodName := ⟨"MatchMill$Term", "<init>", "(III[LMatchMill$Term;)V"⟩
def Y_Term_init : gY := (y_Term_init, prog_10_method_1_code, 7, none, [])
def y_Mill_put : MethodName := ⟨"MatchMill", "put", "(LMatchMill$Pile;LMatchMill$Term;)I"⟩
def Y_Mill_put : gY := (y_Mill_put, prog_1_method_24_code, 3, some FieldType.int, [])
def y_Pile_isFull : MethodName := ⟨"MatchMill$Pile", "isFull", "()Z"⟩
def Y_Pile_isFull : gY := (y_Pile_isFull, prog_4_method_3_code, 1, some FieldType.boolean, [])
def y_Pile_lay : MethodName := ⟨"MatchMill$Pile", "lay", "(LMatchMill$Term;)I"⟩
def Y_Pile_lay : gY := (y_Pile_lay, prog_4_method_6_code, 2, some FieldType.int, [])
def y_Mill_number : MethodName := ⟨"MatchMill", "number", "(IIZ)I"⟩
def Y_Mill_number : gY := (y_Mill_number, prog_1_method_5_code, 4, some FieldType.int, [])
def y_Types_isOfNumbers : MethodName := ⟨"MatchMill$Types", "isOfNumbers", "(I)Z"⟩
def Y_Types_isOfNumbers : gY := (y_Types_isOfNumbers, prog_12_method_5_code, 2, some FieldType.boolean, [])
def y_Mill_make : MethodName := ⟨"MatchMill", "make", "(IIZ)I"⟩
def Y_Mill_make : gY := (y_Mill_make, prog_1_method_6_code, 7, some FieldType.int, [])
def y_Types_areArguments : MethodName := ⟨"MatchMill$Types", "areArguments", "(IILMatchMill$Pile;)Z"⟩
def Y_Types_areArguments : gY := (y_Types_areArguments, prog_12_method_11_code, 7, some FieldType.boolean, [])
def y_Pile_typeAt : MethodName := ⟨"MatchMill$Pile", "typeAt", "(I)I"⟩
def Y_Pile_typeAt : gY := (y_Pile_typeAt, prog_4_method_5_code, 3, some FieldType.int, [])
def y_Pile_shareNames : MethodName := ⟨"MatchMill$Pile", "shareNames", "(I)Z"⟩
def Y_Pile_shareNames : gY := (y_Pile_shareNames, prog_4_method_10_code, 4, some FieldType.boolean, [])
def y_Pile_sizeOf : MethodName := ⟨"MatchMill$Pile", "sizeOf", "(I)I"⟩
def Y_Pile_sizeOf : gY := (y_Pile_sizeOf, prog_4_method_9_code, 4, some FieldType.int, [])
def y_Pile_take : MethodName := ⟨"MatchMill$Pile", "take", "(I)[LMatchMill$Term;"⟩
def Y_Pile_take : gY := (y_Pile_take, prog_4_method_8_code, 5, some (FieldType.array (FieldType.object "MatchMill$Term")), [])
def y_Math_min : MethodName := ⟨"java/lang/Math", "min", "(II)I"⟩
def Y_Math_min : gY := (y_Math_min, prog_22_method_69_code, 2, some FieldType.int, [])
def y_Mill_either : MethodName := ⟨"MatchMill", "either", "()I"⟩
def Y_Mill_either : gY := (y_Mill_either, prog_1_method_7_code, 2, some FieldType.int, [])
def y_Pile_areAlike : MethodName := ⟨"MatchMill$Pile", "areAlike", "(I)Z"⟩
def Y_Pile_areAlike : gY := (y_Pile_areAlike, prog_4_method_11_code, 3, some FieldType.boolean, [])
def y_Mill_name : MethodName := ⟨"MatchMill", "name", "(I)I"⟩
def Y_Mill_name : gY := (y_Mill_name, prog_1_method_8_code, 3, some FieldType.int, [])
def y_Mill_isName : MethodName := ⟨"MatchMill", "isName", "(I)Z"⟩
def Y_Mill_isName : gY := (y_Mill_isName, prog_1_method_22_code, 1, some FieldType.boolean, [])
def y_Term_hasName : MethodName := ⟨"MatchMill$Term", "hasName", "(I)Z"⟩
def Y_Term_hasName : gY := (y_Term_hasName, prog_10_method_2_code, 2, some FieldType.boolean, [])
def y_Term_addName : MethodName := ⟨"MatchMill$Term", "addName", "(I)I"⟩
def Y_Term_addName : gY := (y_Term_addName, prog_10_method_3_code, 2, some FieldType.int, [])
def y_Integer_bitCount : MethodName := ⟨"java/lang/Integer", "bitCount", "(I)I"⟩
def Y_Integer_bitCount : gY := (y_Integer_bitCount, prog_20_method_49_code, 1, some FieldType.int, [])
def y_Mill_addCase : MethodName := ⟨"MatchMill", "addCase", "(Z)I"⟩
def Y_Mill_addCase : gY := (y_Mill_addCase, prog_1_method_10_code, 3, some FieldType.int, [])
def y_Cases_accepts : MethodName := ⟨"MatchMill$Cases", "accepts", "(LMatchMill$Term;)Z"⟩
def Y_Cases_accepts : gY := (y_Cases_accepts, prog_2_method_5_code, 2, some FieldType.boolean, [])
def y_Cases_areOf : MethodName := ⟨"MatchMill$Cases", "areOf", "(I)Z"⟩
def Y_Cases_areOf : gY := (y_Cases_areOf, prog_2_method_4_code, 2, some FieldType.boolean, [])
def y_Cases_add : MethodName := ⟨"MatchMill$Cases", "add", "(LMatchMill$Term;Z)I"⟩
def Y_Cases_add : gY := (y_Cases_add, prog_2_method_6_code, 3, some FieldType.int, [])
def y_Mill_build : MethodName := ⟨"MatchMill", "build", "()I"⟩
def Y_Mill_build : gY := (y_Mill_build, prog_1_method_11_code, 1, some FieldType.int, [])
def y_Tree_grow : MethodName := ⟨"MatchMill$Tree", "grow", "()Z"⟩
def Y_Tree_grow : gY := (y_Tree_grow, prog_11_method_3_code, 5, some FieldType.boolean, [])
def y_Tree_begin : MethodName := ⟨"MatchMill$Tree", "begin", "()V"⟩
def Y_Tree_begin : gY := (y_Tree_begin, prog_11_method_4_code, 1, none, [])
def y_Rows_cutTo : MethodName := ⟨"MatchMill$Rows", "cutTo", "(I)V"⟩
def Y_Rows_cutTo : gY := (y_Rows_cutTo, prog_9_method_3_code, 2, none, [])
def y_Places_begin : MethodName := ⟨"MatchMill$Places", "begin", "()V"⟩
def Y_Places_begin : gY := (y_Places_begin, prog_6_method_2_code, 1, none, [])
def y_Places_add : MethodName := ⟨"MatchMill$Places", "add", "(I)V"⟩
def Y_Places_add : gY := (y_Places_add, prog_6_method_7_code, 2, none, [])
def y_ArrayList_size : MethodName := ⟨"java/util/ArrayList", "size", "()I"⟩
def Y_ArrayList_size : gY := (y_ArrayList_size, prog_29_method_8_code, 1, some FieldType.int, [])
def y_Place_init : MethodName := ⟨"MatchMill$Place", "<init>", "()V"⟩
def Y_Place_init : gY := (y_Place_init, prog_5_method_1_code, 1, none, [])
def y_ArrayList_add : MethodName := ⟨"java/util/ArrayList", "add", "(Ljava/lang/Object;)Z"⟩
def Y_ArrayList_add : gY := (y_ArrayList_add, prog_29_method_25_code, 2, some FieldType.boolean, [])
def y_ArrayList_add2 : MethodName := ⟨"java/util/ArrayList", "add", "(Ljava/lang/Object;[Ljava/lang/Object;I)V"⟩
def Y_ArrayList_add2 : gY := (y_ArrayList_add2, prog_29_method_24_code, 4, none, [])
def y_ArrayList_grow : MethodName := ⟨"java/util/ArrayList", "grow", "()[Ljava/lang/Object;"⟩
def Y_ArrayList_grow : gY := (y_ArrayList_grow, prog_29_method_7_code, 1, some (FieldType.array (FieldType.object "java/lang/Object")), [])
def y_ArrayList_grow2 : MethodName := ⟨"java/util/ArrayList", "grow", "(I)[Ljava/lang/Object;"⟩
def Y_ArrayList_grow2 : gY := (y_ArrayList_grow2, prog_29_method_6_code, 4, some (FieldType.array (FieldType.object "java/lang/Object")), [])
def y_ArraysSupport_newLength : MethodName := ⟨"jdk/internal/util/ArraysSupport", "newLength", "(III)I"⟩
def Y_ArraysSupport_newLength : gY := (y_ArraysSupport_newLength, prog_36_method_27_code, 4, some FieldType.int, [])
def y_ArraysSupport_hugeLength : MethodName := ⟨"jdk/internal/util/ArraysSupport", "hugeLength", "(II)I"⟩
def Y_ArraysSupport_hugeLength : gY := (y_ArraysSupport_hugeLength, prog_36_method_28_code, 3, some FieldType.int, [])
def y_Arrays_copyOf : MethodName := ⟨"java/util/Arrays", "copyOf", "([Ljava/lang/Object;I)[Ljava/lang/Object;"⟩
def Y_Arrays_copyOf : gY := (y_Arrays_copyOf, prog_30_method_119_code, 2, some (FieldType.array (FieldType.object "java/lang/Object")), [])
def y_Arrays_copyOf2 : MethodName := ⟨"java/util/Arrays", "copyOf", "([Ljava/lang/Object;ILjava/lang/Class;)[Ljava/lang/Object;"⟩
def Y_Arrays_copyOf2 : gY := (y_Arrays_copyOf2, prog_30_method_120_code, 4, some (FieldType.array (FieldType.object "java/lang/Object")), [])
def y_ArrayList_get : MethodName := ⟨"java/util/ArrayList", "get", "(I)Ljava/lang/Object;"⟩
def Y_ArrayList_get : gY := (y_ArrayList_get, prog_29_method_20_code, 2, some (FieldType.object "java/lang/Object"), [])
def y_Objects_checkIndex : MethodName := ⟨"java/util/Objects", "checkIndex", "(II)I"⟩
def Y_Objects_checkIndex : gY := (y_Objects_checkIndex, prog_33_method_17_code, 2, some FieldType.int, [])
def y_Preconditions_checkIndex : MethodName := ⟨"jdk/internal/util/Preconditions", "checkIndex", "(IILjava/util/function/BiFunction;)I"⟩
def Y_Preconditions_checkIndex : gY := (y_Preconditions_checkIndex, prog_37_method_11_code, 3, some FieldType.int, [])
def y_ArrayList_elementData : MethodName := ⟨"java/util/ArrayList", "elementData", "(I)Ljava/lang/Object;"⟩
def Y_ArrayList_elementData : gY := (y_ArrayList_elementData, prog_29_method_18_code, 2, some (FieldType.object "java/lang/Object"), [])
def y_Place_begin : MethodName := ⟨"MatchMill$Place", "begin", "(I)V"⟩
def Y_Place_begin : gY := (y_Place_begin, prog_5_method_2_code, 2, none, [])
def y_Place_leave : MethodName := ⟨"MatchMill$Place", "leave", "()V"⟩
def Y_Place_leave : gY := (y_Place_leave, prog_5_method_4_code, 1, none, [])
def y_Rows_putCases : MethodName := ⟨"MatchMill$Rows", "putCases", "(LMatchMill$Cases;)Z"⟩
def Y_Rows_putCases : gY := (y_Rows_putCases, prog_9_method_5_code, 6, some FieldType.boolean, [])
def y_Rows_insert : MethodName := ⟨"MatchMill$Rows", "insert", "(II)LMatchMill$Row;"⟩
def Y_Rows_insert : gY := (y_Rows_insert, prog_9_method_8_code, 3, some (FieldType.object "MatchMill$Row"), [])
def y_Row_init : MethodName := ⟨"MatchMill$Row", "<init>", "()V"⟩
def Y_Row_init : gY := (y_Row_init, prog_8_method_1_code, 1, none, [])
def y_ArrayList_remove : MethodName := ⟨"java/util/ArrayList", "remove", "(I)Ljava/lang/Object;"⟩
def Y_ArrayList_remove : gY := (y_ArrayList_remove, prog_29_method_29_code, 4, some (FieldType.object "java/lang/Object"), [])
def y_ArrayList_fastRemove : MethodName := ⟨"java/util/ArrayList", "fastRemove", "([Ljava/lang/Object;I)V"⟩
def Y_ArrayList_fastRemove : gY := (y_ArrayList_fastRemove, prog_29_method_39_code, 4, none, [])
def y_ArrayList_add3 : MethodName := ⟨"java/util/ArrayList", "add", "(ILjava/lang/Object;)V"⟩
def Y_ArrayList_add3 : gY := (y_ArrayList_add3, prog_29_method_26_code, 5, none, [])
def y_ArrayList_rangeCheckForAdd : MethodName := ⟨"java/util/ArrayList", "rangeCheckForAdd", "(I)V"⟩
def Y_ArrayList_rangeCheckForAdd : gY := (y_ArrayList_rangeCheckForAdd, prog_29_method_45_code, 2, none, [])
def y_Cases_patternOf : MethodName := ⟨"MatchMill$Cases", "patternOf", "(I)LMatchMill$Term;"⟩
def Y_Cases_patternOf : gY := (y_Cases_patternOf, prog_2_method_7_code, 2, some (FieldType.object "MatchMill$Term"), [])
def y_Row_begin : MethodName := ⟨"MatchMill$Row", "begin", "(ILMatchMill$Term;)V"⟩
def Y_Row_begin : gY := (y_Row_begin, prog_8_method_2_code, 3, none, [])
def y_Rows_part : MethodName := ⟨"MatchMill$Rows", "part", "(II)Z"⟩
def Y_Rows_part : gY := (y_Rows_part, prog_9_method_7_code, 8, some FieldType.boolean, [])
def y_Row_tidy : MethodName := ⟨"MatchMill$Row", "tidy", "()I"⟩
def Y_Row_tidy : gY := (y_Row_tidy, prog_8_method_6_code, 4, some FieldType.int, [])
def y_Row_bindNames : MethodName := ⟨"MatchMill$Row", "bindNames", "(II)V"⟩
def Y_Row_bindNames : gY := (y_Row_bindNames, prog_8_method_7_code, 4, none, [])
def y_Row_moveWishes : MethodName := ⟨"MatchMill$Row", "moveWishes", "(II)V"⟩
def Y_Row_moveWishes : gY := (y_Row_moveWishes, prog_8_method_10_code, 4, none, [])
def y_Row_become : MethodName := ⟨"MatchMill$Row", "become", "(LMatchMill$Row;)V"⟩
def Y_Row_become : gY := (y_Row_become, prog_8_method_3_code, 3, none, [])
def y_Row_choose : MethodName := ⟨"MatchMill$Row", "choose", "(II)V"⟩
def Y_Row_choose : gY := (y_Row_choose, prog_8_method_8_code, 3, none, [])
def y_Tree_plant : MethodName := ⟨"MatchMill$Tree", "plant", "(III)Z"⟩
def Y_Tree_plant : gY := (y_Tree_plant, prog_11_method_7_code, 6, some FieldType.boolean, [])
def y_Rows_size : MethodName := ⟨"MatchMill$Rows", "size", "()I"⟩
def Y_Rows_size : gY := (y_Rows_size, prog_9_method_2_code, 1, some FieldType.int, [])
def y_Rows_rowAt : MethodName := ⟨"MatchMill$Rows", "rowAt", "(I)LMatchMill$Row;"⟩
def Y_Rows_rowAt : gY := (y_Rows_rowAt, prog_9_method_4_code, 2, some (FieldType.object "MatchMill$Row"), [])
def y_Row_hasWishes : MethodName := ⟨"MatchMill$Row", "hasWishes", "()Z"⟩
def Y_Row_hasWishes : gY := (y_Row_hasWishes, prog_8_method_4_code, 1, some FieldType.boolean, [])
def y_Tree_ask : MethodName := ⟨"MatchMill$Tree", "ask", "(III)Z"⟩
def Y_Tree_ask : gY := (y_Tree_ask, prog_11_method_9_code, 6, some FieldType.boolean, [])
def y_Tree_nextQuestion : MethodName := ⟨"MatchMill$Tree", "nextQuestion", "()LMatchMill$Question;"⟩
def Y_Tree_nextQuestion : gY := (y_Tree_nextQuestion, prog_11_method_10_code, 1, some (FieldType.object "MatchMill$Question"), [])
def y_Question_init : MethodName := ⟨"MatchMill$Question", "<init>", "()V"⟩
def Y_Question_init : gY := (y_Question_init, prog_7_method_1_code, 1, none, [])
def y_Places_distanceOf : MethodName := ⟨"MatchMill$Places", "distanceOf", "(I)I"⟩
def Y_Places_distanceOf : gY := (y_Places_distanceOf, prog_6_method_4_code, 2, some FieldType.int, [])
def y_Places_size : MethodName := ⟨"MatchMill$Places", "size", "()I"⟩
def Y_Places_size : gY := (y_Places_size, prog_6_method_3_code, 1, some FieldType.int, [])
def y_Tree_keepNumbers : MethodName := ⟨"MatchMill$Tree", "keepNumbers", "(LMatchMill$Question;)V"⟩
def Y_Tree_keepNumbers : gY := (y_Tree_keepNumbers, prog_11_method_11_code, 6, none, [])
def y_Row_wishFor : MethodName := ⟨"MatchMill$Row", "wishFor", "(I)I"⟩
def Y_Row_wishFor : gY := (y_Row_wishFor, prog_8_method_5_code, 3, some FieldType.int, [])
def y_Tree_keepNumber : MethodName := ⟨"MatchMill$Tree", "keepNumber", "(II)V"⟩
def Y_Tree_keepNumber : gY := (y_Tree_keepNumber, prog_11_method_12_code, 5, none, [])
def y_Types_constructorsOf : MethodName := ⟨"MatchMill$Types", "constructorsOf", "(I)I"⟩
def Y_Types_constructorsOf : gY := (y_Types_constructorsOf, prog_12_method_8_code, 2, some FieldType.int, [])
def y_Cases_isGuarded : MethodName := ⟨"MatchMill$Cases", "isGuarded", "(I)Z"⟩
def Y_Cases_isGuarded : gY := (y_Cases_isGuarded, prog_2_method_8_code, 2, some FieldType.boolean, [])
def y_Rows_leaveOut : MethodName := ⟨"MatchMill$Rows", "leaveOut", "(II)V"⟩
def Y_Rows_leaveOut : gY := (y_Rows_leaveOut, prog_9_method_9_code, 6, none, [])
def y_ArrayList_set : MethodName := ⟨"java/util/ArrayList", "set", "(ILjava/lang/Object;)Ljava/lang/Object;"⟩
def Y_ArrayList_set : gY := (y_ArrayList_set, prog_29_method_23_code, 4, some (FieldType.object "java/lang/Object"), [])
def y_Tree_fail : MethodName := ⟨"MatchMill$Tree", "fail", "()V"⟩
def Y_Tree_fail : gY := (y_Tree_fail, prog_11_method_8_code, 1, none, [])
def y_Places_tellAll : MethodName := ⟨"MatchMill$Places", "tellAll", "([I)I"⟩
def Y_Places_tellAll : gY := (y_Places_tellAll, prog_6_method_8_code, 2, some FieldType.int, [])
def y_Places_tell : MethodName := ⟨"MatchMill$Places", "tell", "(II[II)I"⟩
def Y_Places_tell : gY := (y_Places_tell, prog_6_method_9_code, 8, some FieldType.int, [])
def y_Places_leave : MethodName := ⟨"MatchMill$Places", "leave", "(I)V"⟩
def Y_Places_leave : gY := (y_Places_leave, prog_6_method_6_code, 2, none, [])
def y_Tree_follow : MethodName := ⟨"MatchMill$Tree", "follow", "(ILMatchMill$Question;)Z"⟩
def Y_Tree_follow : gY := (y_Tree_follow, prog_11_method_5_code, 6, some FieldType.boolean, [])
def y_Tree_meaning : MethodName := ⟨"MatchMill$Tree", "meaning", "(LMatchMill$Question;I)I"⟩
def Y_Tree_meaning : gY := (y_Tree_meaning, prog_11_method_13_code, 5, some FieldType.int, [])
def y_Tree_arityBehind : MethodName := ⟨"MatchMill$Tree", "arityBehind", "(LMatchMill$Question;I)I"⟩
def Y_Tree_arityBehind : gY := (y_Tree_arityBehind, prog_11_method_6_code, 4, some FieldType.int, [])
def y_Places_answer : MethodName := ⟨"MatchMill$Places", "answer", "(LMatchMill$Question;II)V"⟩
def Y_Places_answer : gY := (y_Places_answer, prog_6_method_5_code, 6, none, [])
def y_Place_answer : MethodName := ⟨"MatchMill$Place", "answer", "(IIII)V"⟩
def Y_Place_answer : gY := (y_Place_answer, prog_5_method_3_code, 5, none, [])
def y_Rows_putAnswer : MethodName := ⟨"MatchMill$Rows", "putAnswer", "(LMatchMill$Question;I)Z"⟩
def Y_Rows_putAnswer : gY := (y_Rows_putAnswer, prog_9_method_6_code, 10, some FieldType.boolean, [])
def y_Row_open : MethodName := ⟨"MatchMill$Row", "open", "(II)V"⟩
def Y_Row_open : gY := (y_Row_open, prog_8_method_9_code, 5, none, [])
def y_UOE_init : MethodName := ⟨"java/lang/UnsupportedOperationException", "<init>", "()V"⟩
def Y_UOE_init : gY := (y_UOE_init, prog_26_method_1_code, 1, none, [])
def y_Tree_size : MethodName := ⟨"MatchMill$Tree", "size", "()I"⟩
def Y_Tree_size : gY := (y_Tree_size, prog_11_method_2_code, 1, some FieldType.int, [])
def y_Mill_match : MethodName := ⟨"MatchMill", "match", "(I)I"⟩
def Y_Mill_match : gY := (y_Mill_match, prog_1_method_12_code, 3, some FieldType.int, [])
def y_Tree_lead : MethodName := ⟨"MatchMill$Tree", "lead", "(LMatchMill$Term;ILMatchMill$Passage;)I"⟩
def Y_Tree_lead : gY := (y_Tree_lead, prog_11_method_16_code, 10, some FieldType.int, [])
def y_Passage_begin : MethodName := ⟨"MatchMill$Passage", "begin", "(LMatchMill$Term;)V"⟩
def Y_Passage_begin : gY := (y_Passage_begin, prog_3_method_3_code, 2, none, [])
def y_Tree_firstHeld : MethodName := ⟨"MatchMill$Tree", "firstHeld", "(II)LMatchMill$Row;"⟩
def Y_Tree_firstHeld : gY := (y_Tree_firstHeld, prog_11_method_17_code, 6, some (FieldType.object "MatchMill$Row"), [])
def y_Tree_questionBehind : MethodName := ⟨"MatchMill$Tree", "questionBehind", "(II)I"⟩
def Y_Tree_questionBehind : gY := (y_Tree_questionBehind, prog_11_method_15_code, 5, some FieldType.int, [])
def y_Passage_meet : MethodName := ⟨"MatchMill$Passage", "meet", "(II)LMatchMill$Term;"⟩
def Y_Passage_meet : gY := (y_Passage_meet, prog_3_method_4_code, 5, some (FieldType.object "MatchMill$Term"), [])
def y_Tree_answerFor : MethodName := ⟨"MatchMill$Tree", "answerFor", "(LMatchMill$Question;LMatchMill$Term;)I"⟩
def Y_Tree_answerFor : gY := (y_Tree_answerFor, prog_11_method_14_code, 4, some FieldType.int, [])
def y_Passage_bind : MethodName := ⟨"MatchMill$Passage", "bind", "(LMatchMill$Row;)V"⟩
def Y_Passage_bind : gY := (y_Passage_bind, prog_3_method_5_code, 4, none, [])
def y_Mill_bound : MethodName := ⟨"MatchMill", "bound", "(I)I"⟩
def Y_Mill_bound : gY := (y_Mill_bound, prog_1_method_14_code, 2, some FieldType.int, [])
def y_Passage_lengthOf : MethodName := ⟨"MatchMill$Passage", "lengthOf", "(I)I"⟩
def Y_Passage_lengthOf : gY := (y_Passage_lengthOf, prog_3_method_7_code, 3, some FieldType.int, [])
def y_Mill_boundAt : MethodName := ⟨"MatchMill", "boundAt", "(II)I"⟩
def Y_Mill_boundAt : gY := (y_Mill_boundAt, prog_1_method_15_code, 3, some FieldType.int, [])
def y_Passage_toldOf : MethodName := ⟨"MatchMill$Passage", "toldOf", "(II)I"⟩
def Y_Passage_toldOf : gY := (y_Passage_toldOf, prog_3_method_8_code, 5, some FieldType.int, [])
def y_Term_partAt : MethodName := ⟨"MatchMill$Term", "partAt", "(I)LMatchMill$Term;"⟩
def Y_Term_partAt : gY := (y_Term_partAt, prog_10_method_4_code, 6, some (FieldType.object "MatchMill$Term"), [])
def y_Mill_question : MethodName := ⟨"MatchMill", "question", "(II)I"⟩
def Y_Mill_question : gY := (y_Mill_question, prog_1_method_18_code, 3, some FieldType.int, [])
def y_Tree_factOf : MethodName := ⟨"MatchMill$Tree", "factOf", "(II)I"⟩
def Y_Tree_factOf : gY := (y_Tree_factOf, prog_11_method_20_code, 4, some FieldType.int, [])
def y_Mill_about : MethodName := ⟨"MatchMill", "about", "(I)I"⟩
def Y_Mill_about : gY := (y_Mill_about, prog_1_method_19_code, 2, some FieldType.int, [])
def y_Tree_total : MethodName := ⟨"MatchMill$Tree", "total", "(I)I"⟩
def Y_Tree_total : gY := (y_Tree_total, prog_11_method_21_code, 2, some FieldType.int, [])
def y_Model_init : MethodName := ⟨"MatchMillModel", "<init>", "()V"⟩
def Y_Model_init : gY := (y_Model_init, prog_14_method_1_code, 1, none, [])
def y_Model_forget : MethodName := ⟨"MatchMillModel", "forget", "()V"⟩
def Y_Model_forget : gY := (y_Model_forget, prog_14_method_4_code, 2, none, [])
def y_Model_thrown : MethodName := ⟨"MatchMillModel", "thrown", "()I"⟩
def Y_Model_thrown : gY := (y_Model_thrown, prog_14_method_2_code, 1, some FieldType.int, [])
def y_Model_type : MethodName := ⟨"MatchMillModel", "type", "(II)V"⟩
def Y_Model_type : gY := (y_Model_type, prog_14_method_7_code, 4, none, [])
def y_Model_refuses : MethodName := ⟨"MatchMillModel", "refuses", "(I)Z"⟩
def Y_Model_refuses : gY := (y_Model_refuses, prog_14_method_3_code, 2, some FieldType.boolean, [])
def y_Model_argument : MethodName := ⟨"MatchMillModel", "argument", "(III)I"⟩
def Y_Model_argument : gY := (y_Model_argument, prog_14_method_8_code, 6, some FieldType.int, [])
def y_Model_isMaker : MethodName := ⟨"MatchMillModel", "isMaker", "(II)Z"⟩
def Y_Model_isMaker : gY := (y_Model_isMaker, prog_14_method_6_code, 3, some FieldType.boolean, [])
def y_Model_isType : MethodName := ⟨"MatchMillModel", "isType", "(I)Z"⟩
def Y_Model_isType : gY := (y_Model_isType, prog_14_method_5_code, 2, some FieldType.boolean, [])
def y_Model_any : MethodName := ⟨"MatchMillModel", "any", "(I)I"⟩
def Y_Model_any : gY := (y_Model_any, prog_14_method_12_code, 2, some FieldType.int, [])
def y_Model_node : MethodName := ⟨"MatchMillModel", "node", "(IIIII)I"⟩
def Y_Model_node : gY := (y_Model_node, prog_14_method_9_code, 6, some FieldType.int, [])
def y_Model_push : MethodName := ⟨"MatchMillModel", "push", "(IZ)I"⟩
def Y_Model_push : gY := (y_Model_push, prog_14_method_10_code, 3, some FieldType.int, [])
def y_Model_number : MethodName := ⟨"MatchMillModel", "number", "(IIZ)I"⟩
def Y_Model_number : gY := (y_Model_number, prog_14_method_13_code, 4, some FieldType.int, [])
def y_Model_height : MethodName := ⟨"MatchMillModel", "height", "(Z)I"⟩
def Y_Model_height : gY := (y_Model_height, prog_14_method_11_code, 2, some FieldType.int, [])
def y_Model_make : MethodName := ⟨"MatchMillModel", "make", "(IIZ)I"⟩
def Y_Model_make : gY := (y_Model_make, prog_14_method_14_code, 12, some FieldType.int, [])
def y_Model_either : MethodName := ⟨"MatchMillModel", "either", "()I"⟩
def Y_Model_either : gY := (y_Model_either, prog_14_method_15_code, 4, some FieldType.int, [])
def y_Model_name : MethodName := ⟨"MatchMillModel", "name", "(I)I"⟩
def Y_Model_name : gY := (y_Model_name, prog_14_method_16_code, 7, some FieldType.int, [])
def y_Model_pop : MethodName := ⟨"MatchMillModel", "pop", "(Z)I"⟩
def Y_Model_pop : gY := (y_Model_pop, prog_14_method_17_code, 2, some FieldType.int, [])
def y_Model_addCase : MethodName := ⟨"MatchMillModel", "addCase", "(Z)I"⟩
def Y_Model_addCase : gY := (y_Model_addCase, prog_14_method_18_code, 3, some FieldType.int, [])
def y_Model_build : MethodName := ⟨"MatchMillModel", "build", "()I"⟩
def Y_Model_build : gY := (y_Model_build, prog_14_method_31_code, 7, some FieldType.int, [])
def y_Model_firstRows : MethodName := ⟨"MatchMillModel", "firstRows", "()V"⟩
def Y_Model_firstRows : gY := (y_Model_firstRows, prog_14_method_21_code, 4, none, [])
def y_Model_settle : MethodName := ⟨"MatchMillModel", "settle", "(I)V"⟩
def Y_Model_settle : gY := (y_Model_settle, prog_14_method_20_code, 10, none, [])
def y_Model_copyRow : MethodName := ⟨"MatchMillModel", "copyRow", "(II)V"⟩
def Y_Model_copyRow : gY := (y_Model_copyRow, prog_14_method_19_code, 4, none, [])
def y_Model_tellMissing : MethodName := ⟨"MatchMillModel", "tellMissing", "()V"⟩
def Y_Model_tellMissing : gY := (y_Model_tellMissing, prog_14_method_34_code, 8, none, [])
def y_Model_otherRows : MethodName := ⟨"MatchMillModel", "otherRows", "(III)V"⟩
def Y_Model_otherRows : gY := (y_Model_otherRows, prog_14_method_26_code, 5, none, [])
def y_Model_asks : MethodName := ⟨"MatchMillModel", "asks", "(II)V"⟩
def Y_Model_asks : gY := (y_Model_asks, prog_14_method_32_code, 8, none, [])
def y_Model_answers : MethodName := ⟨"MatchMillModel", "answers", "(III)I"⟩
def Y_Model_answers : gY := (y_Model_answers, prog_14_method_29_code, 6, some FieldType.int, [])
def y_Model_above : MethodName := ⟨"MatchMillModel", "above", "(IIIIZ)I"⟩
def Y_Model_above : gY := (y_Model_above, prog_14_method_28_code, 10, some FieldType.int, [])
def y_Model_wish : MethodName := ⟨"MatchMillModel", "wish", "(II)I"⟩
def Y_Model_wish : gY := (y_Model_wish, prog_14_method_22_code, 5, some FieldType.int, [])
def y_Model_answersNext : MethodName := ⟨"MatchMillModel", "answersNext", "(I)Z"⟩
def Y_Model_answersNext : gY := (y_Model_answersNext, prog_14_method_33_code, 9, some FieldType.boolean, [])
def y_Model_answerRows : MethodName := ⟨"MatchMillModel", "answerRows", "(IIIZIZ)V"⟩
def Y_Model_answerRows : gY := (y_Model_answerRows, prog_14_method_24_code, 14, none, [])
def y_Model_opens : MethodName := ⟨"MatchMillModel", "opens", "(III)V"⟩
def Y_Model_opens : gY := (y_Model_opens, prog_14_method_25_code, 6, none, [])
def y_Model_inside : MethodName := ⟨"MatchMillModel", "inside", "(III)I"⟩
def Y_Model_inside : gY := (y_Model_inside, prog_14_method_23_code, 6, some FieldType.int, [])
def y_Model_other : MethodName := ⟨"MatchMillModel", "other", "(III)I"⟩
def Y_Model_other : gY := (y_Model_other, prog_14_method_30_code, 5, some FieldType.int, [])
def y_Model_isWished : MethodName := ⟨"MatchMillModel", "isWished", "(IIII)Z"⟩
def Y_Model_isWished : gY := (y_Model_isWished, prog_14_method_27_code, 8, some FieldType.boolean, [])
def y_Model_match : MethodName := ⟨"MatchMillModel", "match", "(I)I"⟩
def Y_Model_match : gY := (y_Model_match, prog_14_method_35_code, 15, some FieldType.int, [])
def y_Model_below : MethodName := ⟨"MatchMillModel", "below", "(IIII)I"⟩
def Y_Model_below : gY := (y_Model_below, prog_14_method_36_code, 7, some FieldType.int, [])
def y_Model_asked : MethodName := ⟨"MatchMillModel", "asked", "(I)I"⟩
def Y_Model_asked : gY := (y_Model_asked, prog_14_method_37_code, 2, some FieldType.int, [])
def y_Model_bound : MethodName := ⟨"MatchMillModel", "bound", "(I)I"⟩
def Y_Model_bound : gY := (y_Model_bound, prog_14_method_39_code, 2, some FieldType.int, [])
def y_Model_tell : MethodName := ⟨"MatchMillModel", "tell", "(I)V"⟩
def Y_Model_tell : gY := (y_Model_tell, prog_14_method_38_code, 6, none, [])
def y_Model_boundAt : MethodName := ⟨"MatchMillModel", "boundAt", "(II)I"⟩
def Y_Model_boundAt : gY := (y_Model_boundAt, prog_14_method_40_code, 3, some FieldType.int, [])
def y_Model_missing : MethodName := ⟨"MatchMillModel", "missing", "(I)I"⟩
def Y_Model_missing : gY := (y_Model_missing, prog_14_method_41_code, 2, some FieldType.int, [])
def y_Model_unused : MethodName := ⟨"MatchMillModel", "unused", "(I)I"⟩
def Y_Model_unused : gY := (y_Model_unused, prog_14_method_42_code, 4, some FieldType.int, [])
def y_Model_question : MethodName := ⟨"MatchMillModel", "question", "(II)I"⟩
def Y_Model_question : gY := (y_Model_question, prog_14_method_43_code, 3, some FieldType.int, [])
def y_Model_about : MethodName := ⟨"MatchMillModel", "about", "(I)I"⟩
def Y_Model_about : gY := (y_Model_about, prog_14_method_44_code, 2, some FieldType.int, [])
def y_Model_clear : MethodName := ⟨"MatchMillModel", "clear", "()V"⟩
def Y_Model_clear : gY := (y_Model_clear, prog_14_method_45_code, 2, none, [])
def y_Law_type : MethodName := ⟨"MatchMillLaw", "type", "(LMatchMill;II)I"⟩
def Y_Law_type : gY := (y_Law_type, method_3_code, 4, some FieldType.int, [(0, 6, 9, 13), (0, 6, 12, 15)])
def y_Law_argument : MethodName := ⟨"MatchMillLaw", "argument", "(LMatchMill;III[J)I"⟩
def Y_Law_argument : gY := (y_Law_argument, method_4_code, 6, some FieldType.int, [(0, 12, 15, 13), (0, 12, 19, 15)])
def y_Law_any : MethodName := ⟨"MatchMillLaw", "any", "(LMatchMill;I[J)I"⟩
def Y_Law_any : gY := (y_Law_any, method_5_code, 4, some FieldType.int, [(0, 9, 12, 13), (0, 9, 15, 15)])
def y_Law_number : MethodName := ⟨"MatchMillLaw", "number", "(LMatchMill;IIZ[J)I"⟩
def Y_Law_number : gY := (y_Law_number, method_6_code, 6, some FieldType.int, [(0, 12, 15, 13), (0, 12, 19, 15)])
def y_Law_make : MethodName := ⟨"MatchMillLaw", "make", "(LMatchMill;IIZ[J)I"⟩
def Y_Law_make : gY := (y_Law_make, method_7_code, 6, some FieldType.int, [(0, 12, 15, 13), (0, 12, 19, 15)])
def y_Law_either : MethodName := ⟨"MatchMillLaw", "either", "(LMatchMill;[J)I"⟩
def Y_Law_either : gY := (y_Law_either, method_8_code, 3, some FieldType.int, [(0, 8, 11, 15)])
def y_Law_name : MethodName := ⟨"MatchMillLaw", "name", "(LMatchMill;I[J)I"⟩
def Y_Law_name : gY := (y_Law_name, method_9_code, 4, some FieldType.int, [(0, 9, 12, 13), (0, 9, 15, 15)])
def y_Law_addCase : MethodName := ⟨"MatchMillLaw", "addCase", "(LMatchMill;Z[J)I"⟩
def Y_Law_addCase : gY := (y_Law_addCase, method_10_code, 4, some FieldType.int, [(0, 9, 12, 15)])
def y_Law_build : MethodName := ⟨"MatchMillLaw", "build", "(LMatchMill;[J)I"⟩
def Y_Law_build : gY := (y_Law_build, method_11_code, 3, some FieldType.int, [(0, 8, 11, 15), (0, 8, 14, 46)])
def y_Law_match : MethodName := ⟨"MatchMillLaw", "match", "(LMatchMill;I[J)I"⟩
def Y_Law_match : gY := (y_Law_match, method_12_code, 4, some FieldType.int, [(0, 9, 12, 15)])
def y_Law_bound : MethodName := ⟨"MatchMillLaw", "bound", "(LMatchMill;I[J)I"⟩
def Y_Law_bound : gY := (y_Law_bound, method_13_code, 4, some FieldType.int, [(0, 9, 12, 13)])
def y_Law_boundAt : MethodName := ⟨"MatchMillLaw", "boundAt", "(LMatchMill;II[J)I"⟩
def Y_Law_boundAt : gY := (y_Law_boundAt, method_14_code, 5, some FieldType.int, [(0, 10, 13, 13)])
def y_Law_question : MethodName := ⟨"MatchMillLaw", "question", "(LMatchMill;II[J)I"⟩
def Y_Law_question : gY := (y_Law_question, method_15_code, 5, some FieldType.int, [(0, 10, 13, 13)])
def y_Law_about : MethodName := ⟨"MatchMillLaw", "about", "(LMatchMill;I[J)I"⟩
def Y_Law_about : gY := (y_Law_about, method_16_code, 4, some FieldType.int, [(0, 9, 12, 13)])
theorem kn_Mill_init : gKI y_Mill_init prog_1_method_1_code 3 0 := ⟨rfl, wI (i := 33) (by decide +kernel), wI (i := 34) (by decide +kernel), wI (i := 1) (by decide +kernel), ⟨by decide, by decide⟩, by decide +kernel, by decide⟩
theorem kn_Types_init : gKI y_Types_init prog_12_method_1_code 1 0 := ⟨rfl, wI (i := 41) (by decide +kernel), wI (i := 42) (by decide +kernel), wI (i := 2) (by decide +kernel), ⟨by decide, by decide⟩, by decide +kernel, by decide⟩
theorem ks_Arrays_fill : gKS Y_Arrays_fill 2 := ⟨wI (i := 45) (by decide +kernel), wI (i := 46) (by decide +kernel), rfl, wI (i := 3) (by decide +kernel), ⟨by decide, by decide⟩, by decide +kernel, by decide⟩
theorem kn_Cases_init : gKI y_Cases_init prog_2_method_1_code 1 0 := ⟨rfl, wI (i := 61) (by decide +kernel), wI (i := 62) (by decide +kernel), wI (i := 4) (by decide +kernel), ⟨by decide, by decide⟩, by decide +kernel, by decide⟩
theorem kn_Pile_init : gKI y_Pile_init prog_4_method_1_code 1 0 := ⟨rfl, wI (i := 80) (by decide +kernel), wI (i := 81) (by decide +kernel), wI (i := 5) (by decide +kernel), ⟨by decide, by decide⟩, by decide +kernel, by decide⟩
theorem kn_Tree_init : gKI y_Tree_init prog_11_method_1_code 3 2 := ⟨rfl, wI (i := 94) (by decide +kernel), wI (i := 95) (by decide +kernel), wI (i := 6) (by decide +kernel), ⟨by decide, by decide⟩, by decide +kernel, by decide⟩
theorem kn_Rows_init : gKI y_Rows_init prog_9_method_1_code 1 0 := ⟨rfl, wI (i := 100) (by decide +kernel), wI (i := 101) (by decide +kernel), wI (i := 7) (by decide +kernel), ⟨by decide, by decide⟩, by decide +kernel, by decide⟩
theorem kn_ArrayList_init : gKI y_ArrayList_init prog_29_method_2_code 1 0 := ⟨rfl, wI (i := 106) (by decide +kernel), wI (i := 107) (by decide +kernel), wI (i := 10) (by decide +kernel), ⟨by decide, by decide⟩, by decide +kernel, by decide⟩
theorem kn_AbstractList_init : gKI y_AbstractList_init prog_28_method_1_code 1 0 := ⟨rfl, wI (i := 109) (by decide +kernel), wI (i := 110) (by decide +kernel), wI (i := 9) (by decide +kernel), ⟨by decide, by decide⟩, by decide +kernel, by decide⟩
theorem kn_AbstractCollection_init : gKI y_AbstractCollection_init prog_27_method_1_code 1 0 := ⟨rfl, wI (i := 112) (by decide +kernel), wI (i := 113) (by decide +kernel), wI (i := 8) (by decide +kernel), ⟨by decide, by decide⟩, by decide +kernel, by decide⟩
theorem kn_Places_init : gKI y_Places_init prog_6_method_1_code 1 0 := ⟨rfl, wI (i := 139) (by decide +kernel), wI (i := 140) (by decide +kernel), wI (i := 11) (by decide +kernel), ⟨by decide, by decide⟩, by decide +kernel, by decide⟩
theorem kn_Passage_init : gKI y_Passage_init prog_3_method_1_code 1 0 := ⟨rfl, wI (i := 199) (by decide +kernel), wI (i := 200) (by decide +kernel), wI (i := 12) (by decide +kernel), ⟨by decide, by decide⟩, by decide +kernel, by decide⟩
theorem kv_Mill_pop : gKV "MatchMill" Y_Mill_pop 1 := ⟨wI (i := 247) (by decide +kernel), wI (i := 248) (by decide +kernel), wI (i := 249) (by decide +kernel), rfl, wI (i := 1) (by decide +kernel), ⟨by decide, by decide⟩, by decide +kernel, by decide⟩
theorem kv_Mill_pileOf : gKV "MatchMill" Y_Mill_pileOf 1 := ⟨wI (i := 252) (by decide +kernel), wP (i := 0) (by decide +kernel), wI (i := 253) (by decide +kernel), rfl, wI (i := 1) (by decide +kernel), ⟨by decide, by decide⟩, by decide +kernel, by decide⟩
theorem kv_Pile_fromTop : gKV "MatchMill$Pile" Y_Pile_fromTop 1 := ⟨wI (i := 255) (by decide +kernel), wI (i := 256) (by decide +kernel), wI (i := 257) (by decide +kernel), rfl, wI (i := 5) (by decide +kernel), ⟨by decide, by decide⟩, by decide +kernel, by decide⟩
theorem kv_Pile_drop : gKV "MatchMill$Pile" Y_Pile_drop 1 := ⟨wI (i := 259) (by decide +kernel), wI (i := 260) (by decide +kernel), wI (i := 261) (by decide +kernel), rfl, wI (i := 5) (by decide +kernel), ⟨by decide, by decide⟩, by decide +kernel, by decide⟩
theorem ks_Math_max : gKS Y_Math_max 2 := ⟨wI (i := 263) (by decide +kernel), wI (i := 264) (by decide +kernel), rfl, wI (i := 20) (by decide +kernel), ⟨by decide, by decide⟩, by decide +kernel, by decide⟩
theorem kv_Mill_asked : gKV "MatchMill" Y_Mill_asked 1 := ⟨wI (i := 266) (by decide +kernel), wI (i := 267) (by decide +kernel), wI (i := 268) (by decide +kernel), rfl, wI (i := 1) (by decide +kernel), ⟨by decide, by decide⟩, by decide +kernel, by decide⟩
theorem kv_Passage_questionAt : gKV "MatchMill$Passage" Y_Passage_questionAt 1 := ⟨wI (i := 270) (by decide +kernel), wI (i := 271) (by decide +kernel), wI (i := 272) (by decide +kernel), rfl, wI (i := 12) (by decide +kernel), ⟨by decide, by decide⟩, by decide +kernel, by decide⟩
theorem kv_Mill_missing : gKV "MatchMill" Y_Mill_missing 1 := ⟨wI (i := 274) (by decide +kernel), wI (i := 275) (by decide +kernel), wI (i := 276) (by decide +kernel), rfl, wI (i := 1) (by decide +kernel), ⟨by decide, by decide⟩, by decide +kernel, by decide⟩
theorem kv_Tree_missingAt : gKV "MatchMill$Tree" Y_Tree_missingAt 1 := ⟨wI (i := 278) (by decide +kernel), wI (i := 279) (by decide +kernel), wI (i := 280) (by decide +kernel), rfl, wI (i := 6) (by decide +kernel), ⟨by decide, by decide⟩, by decide +kernel, by decide⟩
theorem kv_Mill_unused : gKV "MatchMill" Y_Mill_unused 1 := ⟨wI (i := 282) (by decide +kernel), wI (i := 283) (by decide +kernel), wI (i := 284) (by decide +kernel), rfl, wI (i := 1) (by decide +kernel), ⟨by decide, by decide⟩, by decide +kernel, by decide⟩
theorem kv_Tree_unusedAt : gKV "MatchMill$Tree" Y_Tree_unusedAt 1 := ⟨wI (i := 286) (by decide +kernel), wI (i := 287) (by decide +kernel), wI (i := 288) (by decide +kernel), rfl, wI (i := 6) (by decide +kernel), ⟨by decide, by decide⟩, by decide +kernel, by decide⟩
theorem kv_Cases_size : gKV "MatchMill$Cases" Y_Cases_size 0 := ⟨wI (i := 290) (by decide +kernel), wI (i := 291) (by decide +kernel), wI (i := 292) (by decide +kernel), rfl, wI (i := 4) (by decide +kernel), ⟨by decide, by decide⟩, by decide +kernel, by decide⟩
theorem kv_Mill_clear : gKV "MatchMill" Y_Mill_clear 0 := ⟨wI (i := 294) (by decide +kernel), wI (i := 295) (by decide +kernel), wI (i := 296) (by decide +kernel), rfl, wI (i := 1) (by decide +kernel), ⟨by decide, by decide⟩, by decide +kernel, by decide⟩
theorem kv_Types_forget : gKV "MatchMill$Types" Y_Types_forget 0 := ⟨wI (i := 298) (by decide +kernel), wI (i := 299) (by decide +kernel), wI (i := 300) (by decide +kernel), rfl, wI (i := 2) (by decide +kernel), ⟨by decide, by decide⟩, by decide +kernel, by decide⟩
theorem kv_Pile_height : gKV "MatchMill$Pile" Y_Pile_height 0 := ⟨wI (i := 302) (by decide +kernel), wI (i := 303) (by decide +kernel), wI (i := 304) (by decide +kernel), rfl, wI (i := 5) (by decide +kernel), ⟨by decide, by decide⟩, by decide +kernel, by decide⟩
theorem kv_Cases_forget : gKV "MatchMill$Cases" Y_Cases_forget 0 := ⟨wI (i := 306) (by decide +kernel), wI (i := 307) (by decide +kernel), wI (i := 308) (by decide +kernel), rfl, wI (i := 4) (by decide +kernel), ⟨by decide, by decide⟩, by decide +kernel, by decide⟩
theorem kv_Passage_forget : gKV "MatchMill$Passage" Y_Passage_forget 0 := ⟨wI (i := 310) (by decide +kernel), wI (i := 311) (by decide +kernel), wI (i := 312) (by decide +kernel), rfl, wI (i := 12) (by decide +kernel), ⟨by decide, by decide⟩, by decide +kernel, by decide⟩
theorem kv_ArrayList_clear : gKV "java/util/ArrayList" Y_ArrayList_clear 0 := ⟨wI (i := 314) (by decide +kernel), wI (i := 315) (by decide +kernel), wI (i := 316) (by decide +kernel), rfl, wI (i := 10) (by decide +kernel), ⟨by decide, by decide⟩, by decide +kernel, by decide⟩
theorem kv_Mill_forgetTree : gKV "MatchMill" Y_Mill_forgetTree 0 := ⟨wI (i := 319) (by decide +kernel), wP (i := 1) (by decide +kernel), wI (i := 320) (by decide +kernel), rfl, wI (i := 1) (by decide +kernel), ⟨by decide, by decide⟩, by decide +kernel, by decide⟩
theorem kv_Mill_type : gKV "MatchMill" Y_Mill_type 2 := ⟨wI (i := 327) (by decide +kernel), wI (i := 328) (by decide +kernel), wI (i := 329) (by decide +kernel), rfl, wI (i := 1) (by decide +kernel), ⟨by decide, by decide⟩, by decide +kernel, by decide⟩
theorem kv_Types_canBe : gKV "MatchMill$Types" Y_Types_canBe 1 := ⟨wI (i := 331) (by decide +kernel), wI (i := 332) (by decide +kernel), wI (i := 333) (by decide +kernel), rfl, wI (i := 2) (by decide +kernel), ⟨by decide, by decide⟩, by decide +kernel, by decide⟩
theorem kn_Throwable_init : gKI y_Throwable_init prog_25_method_1_code 1 0 := ⟨rfl, wI (i := 357) (by decide +kernel), wI (i := 358) (by decide +kernel), wI (i := 14) (by decide +kernel), ⟨by decide, by decide⟩, by decide +kernel, by decide⟩
theorem kn_IAE_init : gKI y_IAE_init prog_18_method_1_code 1 0 := ⟨rfl, wI (i := 376) (by decide +kernel), wI (i := 377) (by decide +kernel), wI (i := 17) (by decide +kernel), ⟨by decide, by decide⟩, by decide +kernel, by decide⟩
theorem kn_RuntimeException_init : gKI y_RuntimeException_init prog_23_method_1_code 1 0 := ⟨rfl, wI (i := 379) (by decide +kernel), wI (i := 380) (by decide +kernel), wI (i := 16) (by decide +kernel), ⟨by decide, by decide⟩, by decide +kernel, by decide⟩
theorem kn_Exception_init : gKI y_Exception_init prog_17_method_1_code 1 0 := ⟨rfl, wI (i := 382) (by decide +kernel), wI (i := 383) (by decide +kernel), wI (i := 15) (by decide +kernel), ⟨by decide, by decide⟩, by decide +kernel, by decide⟩
theorem kv_Types_isTold : gKV "MatchMill$Types" Y_Types_isTold 1 := ⟨wI (i := 398) (by decide +kernel), wI (i := 399) (by decide +kernel), wI (i := 400) (by decide +kernel), rfl, wI (i := 2) (by decide +kernel), ⟨by decide, by decide⟩, by decide +kernel, by decide⟩
theorem kn_ISE_init : gKI y_ISE_init prog_19_method_1_code 1 0 := ⟨rfl, wI (i := 412) (by decide +kernel), wI (i := 413) (by decide +kernel), wI (i := 18) (by decide +kernel), ⟨by decide, by decide⟩, by decide +kernel, by decide⟩
theorem kv_Types_tell : gKV "MatchMill$Types" Y_Types_tell 2 := ⟨wI (i := 418) (by decide +kernel), wI (i := 419) (by decide +kernel), wI (i := 420) (by decide +kernel), rfl, wI (i := 2) (by decide +kernel), ⟨by decide, by decide⟩, by decide +kernel, by decide⟩
theorem kv_Mill_argument : gKV "MatchMill" Y_Mill_argument 3 := ⟨wI (i := 425) (by decide +kernel), wI (i := 426) (by decide +kernel), wI (i := 427) (by decide +kernel), rfl, wI (i := 1) (by decide +kernel), ⟨by decide, by decide⟩, by decide +kernel, by decide⟩
theorem kv_Types_hasConstructor : gKV "MatchMill$Types" Y_Types_hasConstructor 2 := ⟨wI (i := 429) (by decide +kernel), wI (i := 430) (by decide +kernel), wI (i := 431) (by decide +kernel), rfl, wI (i := 2) (by decide +kernel), ⟨by decide, by decide⟩, by decide +kernel, by decide⟩
theorem kv_Types_arity : gKV "MatchMill$Types" Y_Types_arity 2 := ⟨wI (i := 434) (by decide +kernel), wI (i := 435) (by decide +kernel), wI (i := 436) (by decide +kernel), rfl, wI (i := 2) (by decide +kernel), ⟨by decide, by decide⟩, by decide +kernel, by decide⟩
theorem kv_Types_addArgument : gKV "MatchMill$Types" Y_Types_addArgument 3 := ⟨wI (i := 439) (by decide +kernel), wI (i := 440) (by decide +kernel), wI (i := 441) (by decide +kernel), rfl, wI (i := 2) (by decide +kernel), ⟨by decide, by decide⟩, by decide +kernel, by decide⟩
theorem kv_Mill_any : gKV "MatchMill" Y_Mill_any 1 := ⟨wI (i := 446) (by decide +kernel), wI (i := 447) (by decide +kernel), wI (i := 448) (by decide +kernel), rfl, wI (i := 1) (by decide +kernel), ⟨by decide, by decide⟩, by decide +kernel, by decide⟩
theorem kn_Term_init : gKI y_Term_init prog_10_method_1_code 7 4 := ⟨rfl, wI (i := 452) (by decide +kernel), wI (i := 453) (by decide +kernel), wI (i := 19) (by decide +kernel), ⟨by decide, by decide⟩, by decide +kernel, by decide⟩
theorem kv_Mill_put : gKV "MatchMill" Y_Mill_put 2 := ⟨wI (i := 496) (by decide +kernel), wP (i := 3) (by decide +kernel), wI (i := 497) (by decide +kernel), rfl, wI (i := 1) (by decide +kernel), ⟨by decide, by decide⟩, by decide +kernel, by decide⟩
theorem kv_Pile_isFull : gKV "MatchMill$Pile" Y_Pile_isFull 0 := ⟨wI (i := 499) (by decide +kernel), wI (i := 500) (by decide +kernel), wI (i := 501) (by decide +kernel), rfl, wI (i := 5) (by decide +kernel), ⟨by decide, by decide⟩, by decide +kernel, by decide⟩
theorem kv_Pile_lay : gKV "MatchMill$Pile" Y_Pile_lay 1 := ⟨wI (i := 503) (by decide +kernel), wI (i := 504) (by decide +kernel), wI (i := 505) (by decide +kernel), rfl, wI (i := 5) (by decide +kernel), ⟨by decide, by decide⟩, by decide +kernel, by decide⟩
theorem kv_Mill_number : gKV "MatchMill" Y_Mill_number 3 := ⟨wI (i := 510) (by decide +kernel), wI (i := 511) (by decide +kernel), wI (i := 512) (by decide +kernel), rfl, wI (i := 1) (by decide +kernel), ⟨by decide, by decide⟩, by decide +kernel, by decide⟩
theorem kv_Types_isOfNumbers : gKV "MatchMill$Types" Y_Types_isOfNumbers 1 := ⟨wI (i := 514) (by decide +kernel), wI (i := 515) (by decide +kernel), wI (i := 516) (by decide +kernel), rfl, wI (i := 2) (by decide +kernel), ⟨by decide, by decide⟩, by decide +kernel, by decide⟩
theorem kv_Mill_make : gKV "MatchMill" Y_Mill_make 3 := ⟨wI (i := 521) (by decide +kernel), wI (i := 522) (by decide +kernel), wI (i := 523) (by decide +kernel), rfl, wI (i := 1) (by decide +kernel), ⟨by decide, by decide⟩, by decide +kernel, by decide⟩
theorem kv_Types_areArguments : gKV "MatchMill$Types" Y_Types_areArguments 3 := ⟨wI (i := 525) (by decide +kernel), wI (i := 526) (by decide +kernel), wI (i := 527) (by decide +kernel), rfl, wI (i := 2) (by decide +kernel), ⟨by decide, by decide⟩, by decide +kernel, by decide⟩
theorem kv_Pile_typeAt : gKV "MatchMill$Pile" Y_Pile_typeAt 1 := ⟨wI (i := 531) (by decide +kernel), wI (i := 532) (by decide +kernel), wI (i := 533) (by decide +kernel), rfl, wI (i := 5) (by decide +kernel), ⟨by decide, by decide⟩, by decide +kernel, by decide⟩
theorem kv_Pile_shareNames : gKV "MatchMill$Pile" Y_Pile_shareNames 1 := ⟨wI (i := 536) (by decide +kernel), wI (i := 537) (by decide +kernel), wI (i := 538) (by decide +kernel), rfl, wI (i := 5) (by decide +kernel), ⟨by decide, by decide⟩, by decide +kernel, by decide⟩
theorem kv_Pile_sizeOf : gKV "MatchMill$Pile" Y_Pile_sizeOf 1 := ⟨wI (i := 540) (by decide +kernel), wI (i := 541) (by decide +kernel), wI (i := 542) (by decide +kernel), rfl, wI (i := 5) (by decide +kernel), ⟨by decide, by decide⟩, by decide +kernel, by decide⟩
theorem kv_Pile_take : gKV "MatchMill$Pile" Y_Pile_take 1 := ⟨wI (i := 544) (by decide +kernel), wI (i := 545) (by decide +kernel), wI (i := 546) (by decide +kernel), rfl, wI (i := 5) (by decide +kernel), ⟨by decide, by decide⟩, by decide +kernel, by decide⟩
theorem ks_Math_min : gKS Y_Math_min 2 := ⟨wI (i := 548) (by decide +kernel), wI (i := 549) (by decide +kernel), rfl, wI (i := 20) (by decide +kernel), ⟨by decide, by decide⟩, by decide +kernel, by decide⟩
theorem kv_Mill_either : gKV "MatchMill" Y_Mill_either 0 := ⟨wI (i := 554) (by decide +kernel), wI (i := 555) (by decide +kernel), wI (i := 556) (by decide +kernel), rfl, wI (i := 1) (by decide +kernel), ⟨by decide, by decide⟩, by decide +kernel, by decide⟩
theorem kv_Pile_areAlike : gKV "MatchMill$Pile" Y_Pile_areAlike 1 := ⟨wI (i := 558) (by decide +kernel), wI (i := 559) (by decide +kernel), wI (i := 560) (by decide +kernel), rfl, wI (i := 5) (by decide +kernel), ⟨by decide, by decide⟩, by decide +kernel, by decide⟩
theorem kv_Mill_name : gKV "MatchMill" Y_Mill_name 1 := ⟨wI (i := 566) (by decide +kernel), wI (i := 567) (by decide +kernel), wI (i := 568) (by decide +kernel), rfl, wI (i := 1) (by decide +kernel), ⟨by decide, by decide⟩, by decide +kernel, by decide⟩
theorem ks_Mill_isName : gKS Y_Mill_isName 1 := ⟨wI (i := 570) (by decide +kernel), wI (i := 571) (by decide +kernel), rfl, wI (i := 1) (by decide +kernel), ⟨by decide, by decide⟩, by decide +kernel, by decide⟩
theorem kv_Term_hasName : gKV "MatchMill$Term" Y_Term_hasName 1 := ⟨wI (i := 573) (by decide +kernel), wI (i := 574) (by decide +kernel), wI (i := 575) (by decide +kernel), rfl, wI (i := 19) (by decide +kernel), ⟨by decide, by decide⟩, by decide +kernel, by decide⟩
theorem kv_Term_addName : gKV "MatchMill$Term" Y_Term_addName 1 := ⟨wI (i := 577) (by decide +kernel), wI (i := 578) (by decide +kernel), wI (i := 579) (by decide +kernel), rfl, wI (i := 19) (by decide +kernel), ⟨by decide, by decide⟩, by decide +kernel, by decide⟩
theorem ks_Integer_bitCount : gKS Y_Integer_bitCount 1 := ⟨wI (i := 581) (by decide +kernel), wI (i := 582) (by decide +kernel), rfl, wI (i := 21) (by decide +kernel), ⟨by decide, by decide⟩, by decide +kernel, by decide⟩
theorem kv_Mill_addCase : gKV "MatchMill" Y_Mill_addCase 1 := ⟨wI (i := 590) (by decide +kernel), wI (i := 591) (by decide +kernel), wI (i := 592) (by decide +kernel), rfl, wI (i := 1) (by decide +kernel), ⟨by decide, by decide⟩, by decide +kernel, by decide⟩
theorem kv_Cases_accepts : gKV "MatchMill$Cases" Y_Cases_accepts 1 := ⟨wI (i := 594) (by decide +kernel), wI (i := 595) (by decide +kernel), wI (i := 596) (by decide +kernel), rfl, wI (i := 4) (by decide +kernel), ⟨by decide, by decide⟩, by decide +kernel, by decide⟩
theorem kv_Cases_areOf : gKV "MatchMill$Cases" Y_Cases_areOf 1 := ⟨wI (i := 598) (by decide +kernel), wI (i := 599) (by decide +kernel), wI (i := 600) (by decide +kernel), rfl, wI (i := 4) (by decide +kernel), ⟨by decide, by decide⟩, by decide +kernel, by decide⟩
theorem kv_Cases_add : gKV "MatchMill$Cases" Y_Cases_add 2 := ⟨wI (i := 602) (by decide +kernel), wI (i := 603) (by decide +kernel), wI (i := 604) (by decide +kernel), rfl, wI (i := 4) (by decide +kernel), ⟨by decide, by decide⟩, by decide +kernel, by decide⟩
theorem kv_Mill_build : gKV "MatchMill" Y_Mill_build 0 := ⟨wI (i := 610) (by decide +kernel), wI (i := 611) (by decide +kernel), wI (i := 612) (by decide +kernel), rfl, wI (i := 1) (by decide +kernel), ⟨by decide, by decide⟩, by decide +kernel, by decide⟩
theorem kv_Tree_grow : gKV "MatchMill$Tree" Y_Tree_grow 0 := ⟨wI (i := 615) (by decide +kernel), wI (i := 616) (by decide +kernel), wI (i := 617) (by decide +kernel), rfl, wI (i := 6) (by decide +kernel), ⟨by decide, by decide⟩, by decide +kernel, by decide⟩
theorem kv_Tree_begin : gKV "MatchMill$Tree" Y_Tree_begin 0 := ⟨wI (i := 620) (by decide +kernel), wP (i := 4) (by decide +kernel), wI (i := 621) (by decide +kernel), rfl, wI (i := 6) (by decide +kernel), ⟨by decide, by decide⟩, by decide +kernel, by decide⟩
theorem kv_Rows_cutTo : gKV "MatchMill$Rows" Y_Rows_cutTo 1 := ⟨wI (i := 623) (by decide +kernel), wI (i := 624) (by decide +kernel), wI (i := 625) (by decide +kernel), rfl, wI (i := 7) (by decide +kernel), ⟨by decide, by decide⟩, by decide +kernel, by decide⟩
theorem kv_Places_begin : gKV "MatchMill$Places" Y_Places_begin 0 := ⟨wI (i := 628) (by decide +kernel), wI (i := 629) (by decide +kernel), wI (i := 630) (by decide +kernel), rfl, wI (i := 11) (by decide +kernel), ⟨by decide, by decide⟩, by decide +kernel, by decide⟩
theorem kv_Places_add : gKV "MatchMill$Places" Y_Places_add 1 := ⟨wI (i := 633) (by decide +kernel), wP (i := 5) (by decide +kernel), wI (i := 634) (by decide +kernel), rfl, wI (i := 11) (by decide +kernel), ⟨by decide, by decide⟩, by decide +kernel, by decide⟩
theorem kv_ArrayList_size : gKV "java/util/ArrayList" Y_ArrayList_size 0 := ⟨wI (i := 636) (by decide +kernel), wI (i := 637) (by decide +kernel), wI (i := 638) (by decide +kernel), rfl, wI (i := 10) (by decide +kernel), ⟨by decide, by decide⟩, by decide +kernel, by decide⟩
theorem kn_Place_init : gKI y_Place_init prog_5_method_1_code 1 0 := ⟨rfl, wI (i := 642) (by decide +kernel), wI (i := 643) (by decide +kernel), wI (i := 22) (by decide +kernel), ⟨by decide, by decide⟩, by decide +kernel, by decide⟩
theorem kv_ArrayList_add : gKV "java/util/ArrayList" Y_ArrayList_add 1 := ⟨wI (i := 667) (by decide +kernel), wI (i := 668) (by decide +kernel), wI (i := 669) (by decide +kernel), rfl, wI (i := 10) (by decide +kernel), ⟨by decide, by decide⟩, by decide +kernel, by decide⟩
theorem kv_ArrayList_add2 : gKV "java/util/ArrayList" Y_ArrayList_add2 3 := ⟨wI (i := 672) (by decide +kernel), wP (i := 6) (by decide +kernel), wI (i := 673) (by decide +kernel), rfl, wI (i := 10) (by decide +kernel), ⟨by decide, by decide⟩, by decide +kernel, by decide⟩
theorem kv_ArrayList_grow : gKV "java/util/ArrayList" Y_ArrayList_grow 0 := ⟨wI (i := 676) (by decide +kernel), wP (i := 7) (by decide +kernel), wI (i := 677) (by decide +kernel), rfl, wI (i := 10) (by decide +kernel), ⟨by decide, by decide⟩, by decide +kernel, by decide⟩
theorem kv_ArrayList_grow2 : gKV "java/util/ArrayList" Y_ArrayList_grow2 1 := ⟨wI (i := 680) (by decide +kernel), wP (i := 8) (by decide +kernel), wI (i := 681) (by decide +kernel), rfl, wI (i := 10) (by decide +kernel), ⟨by decide, by decide⟩, by decide +kernel, by decide⟩
theorem ks_ArraysSupport_newLength : gKS Y_ArraysSupport_newLength 3 := ⟨wI (i := 683) (by decide +kernel), wI (i := 684) (by decide +kernel), rfl, wI (i := 23) (by decide +kernel), ⟨by decide, by decide⟩, by decide +kernel, by decide⟩
theorem ks_ArraysSupport_hugeLength : gKS Y_ArraysSupport_hugeLength 2 := ⟨wI (i := 688) (by decide +kernel), wI (i := 689) (by decide +kernel), rfl, wI (i := 23) (by decide +kernel), ⟨by decide, by decide⟩, by decide +kernel, by decide⟩
theorem ks_Arrays_copyOf : gKS Y_Arrays_copyOf 2 := ⟨wI (i := 691) (by decide +kernel), wI (i := 692) (by decide +kernel), rfl, wI (i := 3) (by decide +kernel), ⟨by decide, by decide⟩, by decide +kernel, by decide⟩
theorem ks_Arrays_copyOf2 : gKS Y_Arrays_copyOf2 3 := ⟨wI (i := 715) (by decide +kernel), wI (i := 716) (by decide +kernel), rfl, wI (i := 3) (by decide +kernel), ⟨by decide, by decide⟩, by decide +kernel, by decide⟩
theorem kv_ArrayList_get : gKV "java/util/ArrayList" Y_ArrayList_get 1 := ⟨wI (i := 727) (by decide +kernel), wI (i := 728) (by decide +kernel), wI (i := 729) (by decide +kernel), rfl, wI (i := 10) (by decide +kernel), ⟨by decide, by decide⟩, by decide +kernel, by decide⟩
theorem ks_Objects_checkIndex : gKS Y_Objects_checkIndex 2 := ⟨wI (i := 731) (by decide +kernel), wI (i := 732) (by decide +kernel), rfl, wI (i := 25) (by decide +kernel), ⟨by decide, by decide⟩, by decide +kernel, by decide⟩
theorem ks_Preconditions_checkIndex : gKS Y_Preconditions_checkIndex 3 := ⟨wI (i := 734) (by decide +kernel), wI (i := 735) (by decide +kernel), rfl, wI (i := 26) (by decide +kernel), ⟨by decide, by decide⟩, by decide +kernel, by decide⟩
theorem kv_ArrayList_elementData : gKV "java/util/ArrayList" Y_ArrayList_elementData 1 := ⟨wI (i := 737) (by decide +kernel), wI (i := 738) (by decide +kernel), wI (i := 739) (by decide +kernel), rfl, wI (i := 10) (by decide +kernel), ⟨by decide, by decide⟩, by decide +kernel, by decide⟩
theorem kv_Place_begin : gKV "MatchMill$Place" Y_Place_begin 1 := ⟨wI (i := 741) (by decide +kernel), wI (i := 742) (by decide +kernel), wI (i := 743) (by decide +kernel), rfl, wI (i := 22) (by decide +kernel), ⟨by decide, by decide⟩, by decide +kernel, by decide⟩
theorem kv_Place_leave : gKV "MatchMill$Place" Y_Place_leave 0 := ⟨wI (i := 745) (by decide +kernel), wI (i := 746) (by decide +kernel), wI (i := 747) (by decide +kernel), rfl, wI (i := 22) (by decide +kernel), ⟨by decide, by decide⟩, by decide +kernel, by decide⟩
theorem kv_Rows_putCases : gKV "MatchMill$Rows" Y_Rows_putCases 1 := ⟨wI (i := 749) (by decide +kernel), wI (i := 750) (by decide +kernel), wI (i := 751) (by decide +kernel), rfl, wI (i := 7) (by decide +kernel), ⟨by decide, by decide⟩, by decide +kernel, by decide⟩
theorem kv_Rows_insert : gKV "MatchMill$Rows" Y_Rows_insert 2 := ⟨wI (i := 755) (by decide +kernel), wP (i := 9) (by decide +kernel), wI (i := 756) (by decide +kernel), rfl, wI (i := 7) (by decide +kernel), ⟨by decide, by decide⟩, by decide +kernel, by decide⟩
theorem kn_Row_init : gKI y_Row_init prog_8_method_1_code 1 0 := ⟨rfl, wI (i := 761) (by decide +kernel), wI (i := 762) (by decide +kernel), wI (i := 27) (by decide +kernel), ⟨by decide, by decide⟩, by decide +kernel, by decide⟩
theorem kv_ArrayList_remove : gKV "java/util/ArrayList" Y_ArrayList_remove 1 := ⟨wI (i := 789) (by decide +kernel), wI (i := 790) (by decide +kernel), wI (i := 791) (by decide +kernel), rfl, wI (i := 10) (by decide +kernel), ⟨by decide, by decide⟩, by decide +kernel, by decide⟩
theorem kv_ArrayList_fastRemove : gKV "java/util/ArrayList" Y_ArrayList_fastRemove 2 := ⟨wI (i := 794) (by decide +kernel), wP (i := 10) (by decide +kernel), wI (i := 795) (by decide +kernel), rfl, wI (i := 10) (by decide +kernel), ⟨by decide, by decide⟩, by decide +kernel, by decide⟩
theorem kv_ArrayList_add3 : gKV "java/util/ArrayList" Y_ArrayList_add3 2 := ⟨wI (i := 798) (by decide +kernel), wI (i := 799) (by decide +kernel), wI (i := 800) (by decide +kernel), rfl, wI (i := 10) (by decide +kernel), ⟨by decide, by decide⟩, by decide +kernel, by decide⟩
theorem kv_ArrayList_rangeCheckForAdd : gKV "java/util/ArrayList" Y_ArrayList_rangeCheckForAdd 1 := ⟨wI (i := 803) (by decide +kernel), wP (i := 11) (by decide +kernel), wI (i := 804) (by decide +kernel), rfl, wI (i := 10) (by decide +kernel), ⟨by decide, by decide⟩, by decide +kernel, by decide⟩
theorem kv_Cases_patternOf : gKV "MatchMill$Cases" Y_Cases_patternOf 1 := ⟨wI (i := 807) (by decide +kernel), wI (i := 808) (by decide +kernel), wI (i := 809) (by decide +kernel), rfl, wI (i := 4) (by decide +kernel), ⟨by decide, by decide⟩, by decide +kernel, by decide⟩
theorem kv_Row_begin : gKV "MatchMill$Row" Y_Row_begin 2 := ⟨wI (i := 811) (by decide +kernel), wI (i := 812) (by decide +kernel), wI (i := 813) (by decide +kernel), rfl, wI (i := 27) (by decide +kernel), ⟨by decide, by decide⟩, by decide +kernel, by decide⟩
theorem kv_Rows_part : gKV "MatchMill$Rows" Y_Rows_part 2 := ⟨wI (i := 817) (by decide +kernel), wP (i := 12) (by decide +kernel), wI (i := 818) (by decide +kernel), rfl, wI (i := 7) (by decide +kernel), ⟨by decide, by decide⟩, by decide +kernel, by decide⟩
theorem kv_Row_tidy : gKV "MatchMill$Row" Y_Row_tidy 0 := ⟨wI (i := 820) (by decide +kernel), wI (i := 821) (by decide +kernel), wI (i := 822) (by decide +kernel), rfl, wI (i := 27) (by decide +kernel), ⟨by decide, by decide⟩, by decide +kernel, by decide⟩
theorem kv_Row_bindNames : gKV "MatchMill$Row" Y_Row_bindNames 2 := ⟨wI (i := 825) (by decide +kernel), wP (i := 13) (by decide +kernel), wI (i := 826) (by decide +kernel), rfl, wI (i := 27) (by decide +kernel), ⟨by decide, by decide⟩, by decide +kernel, by decide⟩
theorem kv_Row_moveWishes : gKV "MatchMill$Row" Y_Row_moveWishes 2 := ⟨wI (i := 829) (by decide +kernel), wP (i := 14) (by decide +kernel), wI (i := 830) (by decide +kernel), rfl, wI (i := 27) (by decide +kernel), ⟨by decide, by decide⟩, by decide +kernel, by decide⟩
theorem kv_Row_become : gKV "MatchMill$Row" Y_Row_become 1 := ⟨wI (i := 832) (by decide +kernel), wI (i := 833) (by decide +kernel), wI (i := 834) (by decide +kernel), rfl, wI (i := 27) (by decide +kernel), ⟨by decide, by decide⟩, by decide +kernel, by decide⟩
theorem kv_Row_choose : gKV "MatchMill$Row" Y_Row_choose 2 := ⟨wI (i := 836) (by decide +kernel), wI (i := 837) (by decide +kernel), wI (i := 838) (by decide +kernel), rfl, wI (i := 27) (by decide +kernel), ⟨by decide, by decide⟩, by decide +kernel, by decide⟩
theorem kv_Tree_plant : gKV "MatchMill$Tree" Y_Tree_plant 3 := ⟨wI (i := 841) (by decide +kernel), wP (i := 15) (by decide +kernel), wI (i := 842) (by decide +kernel), rfl, wI (i := 6) (by decide +kernel), ⟨by decide, by decide⟩, by decide +kernel, by decide⟩
theorem kv_Rows_size : gKV "MatchMill$Rows" Y_Rows_size 0 := ⟨wI (i := 844) (by decide +kernel), wI (i := 845) (by decide +kernel), wI (i := 846) (by decide +kernel), rfl, wI (i := 7) (by decide +kernel), ⟨by decide, by decide⟩, by decide +kernel, by decide⟩
theorem kv_Rows_rowAt : gKV "MatchMill$Rows" Y_Rows_rowAt 1 := ⟨wI (i := 848) (by decide +kernel), wI (i := 849) (by decide +kernel), wI (i := 850) (by decide +kernel), rfl, wI (i := 7) (by decide +kernel), ⟨by decide, by decide⟩, by decide +kernel, by decide⟩
theorem kv_Row_hasWishes : gKV "MatchMill$Row" Y_Row_hasWishes 0 := ⟨wI (i := 852) (by decide +kernel), wI (i := 853) (by decide +kernel), wI (i := 854) (by decide +kernel), rfl, wI (i := 27) (by decide +kernel), ⟨by decide, by decide⟩, by decide +kernel, by decide⟩
theorem kv_Tree_ask : gKV "MatchMill$Tree" Y_Tree_ask 3 := ⟨wI (i := 857) (by decide +kernel), wP (i := 16) (by decide +kernel), wI (i := 858) (by decide +kernel), rfl, wI (i := 6) (by decide +kernel), ⟨by decide, by decide⟩, by decide +kernel, by decide⟩
theorem kv_Tree_nextQuestion : gKV "MatchMill$Tree" Y_Tree_nextQuestion 0 := ⟨wI (i := 861) (by decide +kernel), wP (i := 17) (by decide +kernel), wI (i := 862) (by decide +kernel), rfl, wI (i := 6) (by decide +kernel), ⟨by decide, by decide⟩, by decide +kernel, by decide⟩
theorem kn_Question_init : gKI y_Question_init prog_7_method_1_code 1 0 := ⟨rfl, wI (i := 867) (by decide +kernel), wI (i := 868) (by decide +kernel), wI (i := 28) (by decide +kernel), ⟨by decide, by decide⟩, by decide +kernel, by decide⟩
theorem kv_Places_distanceOf : gKV "MatchMill$Places" Y_Places_distanceOf 1 := ⟨wI (i := 917) (by decide +kernel), wI (i := 918) (by decide +kernel), wI (i := 919) (by decide +kernel), rfl, wI (i := 11) (by decide +kernel), ⟨by decide, by decide⟩, by decide +kernel, by decide⟩
theorem kv_Places_size : gKV "MatchMill$Places" Y_Places_size 0 := ⟨wI (i := 921) (by decide +kernel), wI (i := 922) (by decide +kernel), wI (i := 923) (by decide +kernel), rfl, wI (i := 11) (by decide +kernel), ⟨by decide, by decide⟩, by decide +kernel, by decide⟩
theorem kv_Tree_keepNumbers : gKV "MatchMill$Tree" Y_Tree_keepNumbers 1 := ⟨wI (i := 926) (by decide +kernel), wP (i := 18) (by decide +kernel), wI (i := 927) (by decide +kernel), rfl, wI (i := 6) (by decide +kernel), ⟨by decide, by decide⟩, by decide +kernel, by decide⟩
theorem kv_Row_wishFor : gKV "MatchMill$Row" Y_Row_wishFor 1 := ⟨wI (i := 929) (by decide +kernel), wI (i := 930) (by decide +kernel), wI (i := 931) (by decide +kernel), rfl, wI (i := 27) (by decide +kernel), ⟨by decide, by decide⟩, by decide +kernel, by decide⟩
theorem kv_Tree_keepNumber : gKV "MatchMill$Tree" Y_Tree_keepNumber 2 := ⟨wI (i := 934) (by decide +kernel), wP (i := 19) (by decide +kernel), wI (i := 935) (by decide +kernel), rfl, wI (i := 6) (by decide +kernel), ⟨by decide, by decide⟩, by decide +kernel, by decide⟩
theorem kv_Types_constructorsOf : gKV "MatchMill$Types" Y_Types_constructorsOf 1 := ⟨wI (i := 937) (by decide +kernel), wI (i := 938) (by decide +kernel), wI (i := 939) (by decide +kernel), rfl, wI (i := 2) (by decide +kernel), ⟨by decide, by decide⟩, by decide +kernel, by decide⟩
theorem kv_Cases_isGuarded : gKV "MatchMill$Cases" Y_Cases_isGuarded 1 := ⟨wI (i := 942) (by decide +kernel), wI (i := 943) (by decide +kernel), wI (i := 944) (by decide +kernel), rfl, wI (i := 4) (by decide +kernel), ⟨by decide, by decide⟩, by decide +kernel, by decide⟩
theorem kv_Rows_leaveOut : gKV "MatchMill$Rows" Y_Rows_leaveOut 2 := ⟨wI (i := 946) (by decide +kernel), wI (i := 947) (by decide +kernel), wI (i := 948) (by decide +kernel), rfl, wI (i := 7) (by decide +kernel), ⟨by decide, by decide⟩, by decide +kernel, by decide⟩
theorem kv_ArrayList_set : gKV "java/util/ArrayList" Y_ArrayList_set 2 := ⟨wI (i := 950) (by decide +kernel), wI (i := 951) (by decide +kernel), wI (i := 952) (by decide +kernel), rfl, wI (i := 10) (by decide +kernel), ⟨by decide, by decide⟩, by decide +kernel, by decide⟩
theorem kv_Tree_fail : gKV "MatchMill$Tree" Y_Tree_fail 0 := ⟨wI (i := 955) (by decide +kernel), wP (i := 20) (by decide +kernel), wI (i := 956) (by decide +kernel), rfl, wI (i := 6) (by decide +kernel), ⟨by decide, by decide⟩, by decide +kernel, by decide⟩
theorem kv_Places_tellAll : gKV "MatchMill$Places" Y_Places_tellAll 1 := ⟨wI (i := 958) (by decide +kernel), wI (i := 959) (by decide +kernel), wI (i := 960) (by decide +kernel), rfl, wI (i := 11) (by decide +kernel), ⟨by decide, by decide⟩, by decide +kernel, by decide⟩
theorem kv_Places_tell : gKV "MatchMill$Places" Y_Places_tell 4 := ⟨wI (i := 963) (by decide +kernel), wP (i := 21) (by decide +kernel), wI (i := 964) (by decide +kernel), rfl, wI (i := 11) (by decide +kernel), ⟨by decide, by decide⟩, by decide +kernel, by decide⟩
theorem kv_Places_leave : gKV "MatchMill$Places" Y_Places_leave 1 := ⟨wI (i := 967) (by decide +kernel), wI (i := 968) (by decide +kernel), wI (i := 969) (by decide +kernel), rfl, wI (i := 11) (by decide +kernel), ⟨by decide, by decide⟩, by decide +kernel, by decide⟩
theorem kv_Tree_follow : gKV "MatchMill$Tree" Y_Tree_follow 2 := ⟨wI (i := 973) (by decide +kernel), wP (i := 22) (by decide +kernel), wI (i := 974) (by decide +kernel), rfl, wI (i := 6) (by decide +kernel), ⟨by decide, by decide⟩, by decide +kernel, by decide⟩
theorem kv_Tree_meaning : gKV "MatchMill$Tree" Y_Tree_meaning 2 := ⟨wI (i := 977) (by decide +kernel), wP (i := 23) (by decide +kernel), wI (i := 978) (by decide +kernel), rfl, wI (i := 6) (by decide +kernel), ⟨by decide, by decide⟩, by decide +kernel, by decide⟩
theorem kv_Tree_arityBehind : gKV "MatchMill$Tree" Y_Tree_arityBehind 2 := ⟨wI (i := 981) (by decide +kernel), wP (i := 24) (by decide +kernel), wI (i := 982) (by decide +kernel), rfl, wI (i := 6) (by decide +kernel), ⟨by decide, by decide⟩, by decide +kernel, by decide⟩
theorem kv_Places_answer : gKV "MatchMill$Places" Y_Places_answer 3 := ⟨wI (i := 985) (by decide +kernel), wI (i := 986) (by decide +kernel), wI (i := 987) (by decide +kernel), rfl, wI (i := 11) (by decide +kernel), ⟨by decide, by decide⟩, by decide +kernel, by decide⟩
theorem kv_Place_answer : gKV "MatchMill$Place" Y_Place_answer 4 := ⟨wI (i := 989) (by decide +kernel), wI (i := 990) (by decide +kernel), wI (i := 991) (by decide +kernel), rfl, wI (i := 22) (by decide +kernel), ⟨by decide, by decide⟩, by decide +kernel, by decide⟩
theorem kv_Rows_putAnswer : gKV "MatchMill$Rows" Y_Rows_putAnswer 2 := ⟨wI (i := 993) (by decide +kernel), wI (i := 994) (by decide +kernel), wI (i := 995) (by decide +kernel), rfl, wI (i := 7) (by decide +kernel), ⟨by decide, by decide⟩, by decide +kernel, by decide⟩
theorem kv_Row_open : gKV "MatchMill$Row" Y_Row_open 2 := ⟨wI (i := 998) (by decide +kernel), wI (i := 999) (by decide +kernel), wI (i := 1000) (by decide +kernel), rfl, wI (i := 27) (by decide +kernel), ⟨by decide, by decide⟩, by decide +kernel, by decide⟩
theorem kn_UOE_init : gKI y_UOE_init prog_26_method_1_code 1 0 := ⟨rfl, wI (i := 1011) (by decide +kernel), wI (i := 1012) (by decide +kernel), wI (i := 29) (by decide +kernel), ⟨by decide, by decide⟩, by decide +kernel, by decide⟩
theorem kv_Tree_size : gKV "MatchMill$Tree" Y_Tree_size 0 := ⟨wI (i := 1017) (by decide +kernel), wI (i := 1018) (by decide +kernel), wI (i := 1019) (by decide +kernel), rfl, wI (i := 6) (by decide +kernel), ⟨by decide, by decide⟩, by decide +kernel, by decide⟩
theorem kv_Mill_match : gKV "MatchMill" Y_Mill_match 1 := ⟨wI (i := 1024) (by decide +kernel), wI (i := 1025) (by decide +kernel), wI (i := 1026) (by decide +kernel), rfl, wI (i := 1) (by decide +kernel), ⟨by decide, by decide⟩, by decide +kernel, by decide⟩
theorem kv_Tree_lead : gKV "MatchMill$Tree" Y_Tree_lead 3 := ⟨wI (i := 1029) (by decide +kernel), wI (i := 1030) (by decide +kernel), wI (i := 1031) (by decide +kernel), rfl, wI (i := 6) (by decide +kernel), ⟨by decide, by decide⟩, by decide +kernel, by decide⟩
theorem kv_Passage_begin : gKV "MatchMill$Passage" Y_Passage_begin 1 := ⟨wI (i := 1033) (by decide +kernel), wI (i := 1034) (by decide +kernel), wI (i := 1035) (by decide +kernel), rfl, wI (i := 12) (by decide +kernel), ⟨by decide, by decide⟩, by decide +kernel, by decide⟩
theorem kv_Tree_firstHeld : gKV "MatchMill$Tree" Y_Tree_firstHeld 2 := ⟨wI (i := 1040) (by decide +kernel), wP (i := 25) (by decide +kernel), wI (i := 1041) (by decide +kernel), rfl, wI (i := 6) (by decide +kernel), ⟨by decide, by decide⟩, by decide +kernel, by decide⟩
theorem kv_Tree_questionBehind : gKV "MatchMill$Tree" Y_Tree_questionBehind 2 := ⟨wI (i := 1044) (by decide +kernel), wP (i := 26) (by decide +kernel), wI (i := 1045) (by decide +kernel), rfl, wI (i := 6) (by decide +kernel), ⟨by decide, by decide⟩, by decide +kernel, by decide⟩
theorem kv_Passage_meet : gKV "MatchMill$Passage" Y_Passage_meet 2 := ⟨wI (i := 1047) (by decide +kernel), wI (i := 1048) (by decide +kernel), wI (i := 1049) (by decide +kernel), rfl, wI (i := 12) (by decide +kernel), ⟨by decide, by decide⟩, by decide +kernel, by decide⟩
theorem kv_Tree_answerFor : gKV "MatchMill$Tree" Y_Tree_answerFor 2 := ⟨wI (i := 1053) (by decide +kernel), wP (i := 27) (by decide +kernel), wI (i := 1054) (by decide +kernel), rfl, wI (i := 6) (by decide +kernel), ⟨by decide, by decide⟩, by decide +kernel, by decide⟩
theorem kv_Passage_bind : gKV "MatchMill$Passage" Y_Passage_bind 1 := ⟨wI (i := 1056) (by decide +kernel), wI (i := 1057) (by decide +kernel), wI (i := 1058) (by decide +kernel), rfl, wI (i := 12) (by decide +kernel), ⟨by decide, by decide⟩, by decide +kernel, by decide⟩
theorem kv_Mill_bound : gKV "MatchMill" Y_Mill_bound 1 := ⟨wI (i := 1064) (by decide +kernel), wI (i := 1065) (by decide +kernel), wI (i := 1066) (by decide +kernel), rfl, wI (i := 1) (by decide +kernel), ⟨by decide, by decide⟩, by decide +kernel, by decide⟩
theorem kv_Passage_lengthOf : gKV "MatchMill$Passage" Y_Passage_lengthOf 1 := ⟨wI (i := 1068) (by decide +kernel), wI (i := 1069) (by decide +kernel), wI (i := 1070) (by decide +kernel), rfl, wI (i := 12) (by decide +kernel), ⟨by decide, by decide⟩, by decide +kernel, by decide⟩
theorem kv_Mill_boundAt : gKV "MatchMill" Y_Mill_boundAt 2 := ⟨wI (i := 1075) (by decide +kernel), wI (i := 1076) (by decide +kernel), wI (i := 1077) (by decide +kernel), rfl, wI (i := 1) (by decide +kernel), ⟨by decide, by decide⟩, by decide +kernel, by decide⟩
theorem kv_Passage_toldOf : gKV "MatchMill$Passage" Y_Passage_toldOf 2 := ⟨wI (i := 1079) (by decide +kernel), wI (i := 1080) (by decide +kernel), wI (i := 1081) (by decide +kernel), rfl, wI (i := 12) (by decide +kernel), ⟨by decide, by decide⟩, by decide +kernel, by decide⟩
theorem kv_Term_partAt : gKV "MatchMill$Term" Y_Term_partAt 1 := ⟨wI (i := 1083) (by decide +kernel), wI (i := 1084) (by decide +kernel), wI (i := 1085) (by decide +kernel), rfl, wI (i := 19) (by decide +kernel), ⟨by decide, by decide⟩, by decide +kernel, by decide⟩
theorem kv_Mill_question : gKV "MatchMill" Y_Mill_question 2 := ⟨wI (i := 1090) (by decide +kernel), wI (i := 1091) (by decide +kernel), wI (i := 1092) (by decide +kernel), rfl, wI (i := 1) (by decide +kernel), ⟨by decide, by decide⟩, by decide +kernel, by decide⟩
theorem kv_Tree_factOf : gKV "MatchMill$Tree" Y_Tree_factOf 2 := ⟨wI (i := 1094) (by decide +kernel), wI (i := 1095) (by decide +kernel), wI (i := 1096) (by decide +kernel), rfl, wI (i := 6) (by decide +kernel), ⟨by decide, by decide⟩, by decide +kernel, by decide⟩
theorem kv_Mill_about : gKV "MatchMill" Y_Mill_about 1 := ⟨wI (i := 1101) (by decide +kernel), wI (i := 1102) (by decide +kernel), wI (i := 1103) (by decide +kernel), rfl, wI (i := 1) (by decide +kernel), ⟨by decide, by decide⟩, by decide +kernel, by decide⟩
theorem kv_Tree_total : gKV "MatchMill$Tree" Y_Tree_total 1 := ⟨wI (i := 1105) (by decide +kernel), wI (i := 1106) (by decide +kernel), wI (i := 1107) (by decide +kernel), rfl, wI (i := 6) (by decide +kernel), ⟨by decide, by decide⟩, by decide +kernel, by decide⟩
theorem kn_Model_init : gKI y_Model_init prog_14_method_1_code 1 0 := ⟨rfl, wI (i := 1111) (by decide +kernel), wI (i := 1112) (by decide +kernel), wI (i := 13) (by decide +kernel), ⟨by decide, by decide⟩, by decide +kernel, by decide⟩
theorem kv_Model_forget : gKV "MatchMillModel" Y_Model_forget 0 := ⟨wI (i := 1120) (by decide +kernel), wP (i := 28) (by decide +kernel), wI (i := 1121) (by decide +kernel), rfl, wI (i := 13) (by decide +kernel), ⟨by decide, by decide⟩, by decide +kernel, by decide⟩
theorem kv_Model_thrown : gKV "MatchMillModel" Y_Model_thrown 0 := ⟨wI (i := 1303) (by decide +kernel), wI (i := 1304) (by decide +kernel), wI (i := 1305) (by decide +kernel), rfl, wI (i := 13) (by decide +kernel), ⟨by decide, by decide⟩, by decide +kernel, by decide⟩
theorem kv_Model_type : gKV "MatchMillModel" Y_Model_type 2 := ⟨wI (i := 1307) (by decide +kernel), wI (i := 1308) (by decide +kernel), wI (i := 1309) (by decide +kernel), rfl, wI (i := 13) (by decide +kernel), ⟨by decide, by decide⟩, by decide +kernel, by decide⟩
theorem kv_Model_refuses : gKV "MatchMillModel" Y_Model_refuses 1 := ⟨wI (i := 1312) (by decide +kernel), wP (i := 29) (by decide +kernel), wI (i := 1313) (by decide +kernel), rfl, wI (i := 13) (by decide +kernel), ⟨by decide, by decide⟩, by decide +kernel, by decide⟩
theorem kv_Model_argument : gKV "MatchMillModel" Y_Model_argument 3 := ⟨wI (i := 1315) (by decide +kernel), wI (i := 1316) (by decide +kernel), wI (i := 1317) (by decide +kernel), rfl, wI (i := 13) (by decide +kernel), ⟨by decide, by decide⟩, by decide +kernel, by decide⟩
theorem kv_Model_isMaker : gKV "MatchMillModel" Y_Model_isMaker 2 := ⟨wI (i := 1320) (by decide +kernel), wP (i := 30) (by decide +kernel), wI (i := 1321) (by decide +kernel), rfl, wI (i := 13) (by decide +kernel), ⟨by decide, by decide⟩, by decide +kernel, by decide⟩
theorem kv_Model_isType : gKV "MatchMillModel" Y_Model_isType 1 := ⟨wI (i := 1324) (by decide +kernel), wP (i := 31) (by decide +kernel), wI (i := 1325) (by decide +kernel), rfl, wI (i := 13) (by decide +kernel), ⟨by decide, by decide⟩, by decide +kernel, by decide⟩
theorem kv_Model_any : gKV "MatchMillModel" Y_Model_any 1 := ⟨wI (i := 1327) (by decide +kernel), wI (i := 1328) (by decide +kernel), wI (i := 1329) (by decide +kernel), rfl, wI (i := 13) (by decide +kernel), ⟨by decide, by decide⟩, by decide +kernel, by decide⟩
theorem kv_Model_node : gKV "MatchMillModel" Y_Model_node 5 := ⟨wI (i := 1332) (by decide +kernel), wP (i := 32) (by decide +kernel), wI (i := 1333) (by decide +kernel), rfl, wI (i := 13) (by decide +kernel), ⟨by decide, by decide⟩, by decide +kernel, by decide⟩
theorem kv_Model_push : gKV "MatchMillModel" Y_Model_push 2 := ⟨wI (i := 1336) (by decide +kernel), wP (i := 33) (by decide +kernel), wI (i := 1337) (by decide +kernel), rfl, wI (i := 13) (by decide +kernel), ⟨by decide, by decide⟩, by decide +kernel, by decide⟩
theorem kv_Model_number : gKV "MatchMillModel" Y_Model_number 3 := ⟨wI (i := 1339) (by decide +kernel), wI (i := 1340) (by decide +kernel), wI (i := 1341) (by decide +kernel), rfl, wI (i := 13) (by decide +kernel), ⟨by decide, by decide⟩, by decide +kernel, by decide⟩
theorem kv_Model_height : gKV "MatchMillModel" Y_Model_height 1 := ⟨wI (i := 1344) (by decide +kernel), wP (i := 34) (by decide +kernel), wI (i := 1345) (by decide +kernel), rfl, wI (i := 13) (by decide +kernel), ⟨by decide, by decide⟩, by decide +kernel, by decide⟩
theorem kv_Model_make : gKV "MatchMillModel" Y_Model_make 3 := ⟨wI (i := 1347) (by decide +kernel), wI (i := 1348) (by decide +kernel), wI (i := 1349) (by decide +kernel), rfl, wI (i := 13) (by decide +kernel), ⟨by decide, by decide⟩, by decide +kernel, by decide⟩
theorem kv_Model_either : gKV "MatchMillModel" Y_Model_either 0 := ⟨wI (i := 1351) (by decide +kernel), wI (i := 1352) (by decide +kernel), wI (i := 1353) (by decide +kernel), rfl, wI (i := 13) (by decide +kernel), ⟨by decide, by decide⟩, by decide +kernel, by decide⟩
theorem kv_Model_name : gKV "MatchMillModel" Y_Model_name 1 := ⟨wI (i := 1355) (by decide +kernel), wI (i := 1356) (by decide +kernel), wI (i := 1357) (by decide +kernel), rfl, wI (i := 13) (by decide +kernel), ⟨by decide, by decide⟩, by decide +kernel, by decide⟩
theorem kv_Model_pop : gKV "MatchMillModel" Y_Model_pop 1 := ⟨wI (i := 1359) (by decide +kernel), wI (i := 1360) (by decide +kernel), wI (i := 1361) (by decide +kernel), rfl, wI (i := 13) (by decide +kernel), ⟨by decide, by decide⟩, by decide +kernel, by decide⟩
theorem kv_Model_addCase : gKV "MatchMillModel" Y_Model_addCase 1 := ⟨wI (i := 1363) (by decide +kernel), wI (i := 1364) (by decide +kernel), wI (i := 1365) (by decide +kernel), rfl, wI (i := 13) (by decide +kernel), ⟨by decide, by decide⟩, by decide +kernel, by decide⟩
theorem kv_Model_build : gKV "MatchMillModel" Y_Model_build 0 := ⟨wI (i := 1367) (by decide +kernel), wI (i := 1368) (by decide +kernel), wI (i := 1369) (by decide +kernel), rfl, wI (i := 13) (by decide +kernel), ⟨by decide, by decide⟩, by decide +kernel, by decide⟩
theorem kv_Model_firstRows : gKV "MatchMillModel" Y_Model_firstRows 0 := ⟨wI (i := 1372) (by decide +kernel), wP (i := 35) (by decide +kernel), wI (i := 1373) (by decide +kernel), rfl, wI (i := 13) (by decide +kernel), ⟨by decide, by decide⟩, by decide +kernel, by decide⟩
theorem kv_Model_settle : gKV "MatchMillModel" Y_Model_settle 1 := ⟨wI (i := 1377) (by decide +kernel), wP (i := 36) (by decide +kernel), wI (i := 1378) (by decide +kernel), rfl, wI (i := 13) (by decide +kernel), ⟨by decide, by decide⟩, by decide +kernel, by decide⟩
theorem kv_Model_copyRow : gKV "MatchMillModel" Y_Model_copyRow 2 := ⟨wI (i := 1381) (by decide +kernel), wP (i := 37) (by decide +kernel), wI (i := 1382) (by decide +kernel), rfl, wI (i := 13) (by decide +kernel), ⟨by decide, by decide⟩, by decide +kernel, by decide⟩
theorem kv_Model_tellMissing : gKV "MatchMillModel" Y_Model_tellMissing 0 := ⟨wI (i := 1385) (by decide +kernel), wP (i := 38) (by decide +kernel), wI (i := 1386) (by decide +kernel), rfl, wI (i := 13) (by decide +kernel), ⟨by decide, by decide⟩, by decide +kernel, by decide⟩
theorem kv_Model_otherRows : gKV "MatchMillModel" Y_Model_otherRows 3 := ⟨wI (i := 1389) (by decide +kernel), wP (i := 39) (by decide +kernel), wI (i := 1390) (by decide +kernel), rfl, wI (i := 13) (by decide +kernel), ⟨by decide, by decide⟩, by decide +kernel, by decide⟩
theorem kv_Model_asks : gKV "MatchMillModel" Y_Model_asks 2 := ⟨wI (i := 1393) (by decide +kernel), wP (i := 40) (by decide +kernel), wI (i := 1394) (by decide +kernel), rfl, wI (i := 13) (by decide +kernel), ⟨by decide, by decide⟩, by decide +kernel, by decide⟩
theorem kv_Model_answers : gKV "MatchMillModel" Y_Model_answers 3 := ⟨wI (i := 1397) (by decide +kernel), wP (i := 41) (by decide +kernel), wI (i := 1398) (by decide +kernel), rfl, wI (i := 13) (by decide +kernel), ⟨by decide, by decide⟩, by decide +kernel, by decide⟩
theorem kv_Model_above : gKV "MatchMillModel" Y_Model_above 5 := ⟨wI (i := 1401) (by decide +kernel), wP (i := 42) (by decide +kernel), wI (i := 1402) (by decide +kernel), rfl, wI (i := 13) (by decide +kernel), ⟨by decide, by decide⟩, by decide +kernel, by decide⟩
theorem kv_Model_wish : gKV "MatchMillModel" Y_Model_wish 2 := ⟨wI (i := 1405) (by decide +kernel), wP (i := 43) (by decide +kernel), wI (i := 1406) (by decide +kernel), rfl, wI (i := 13) (by decide +kernel), ⟨by decide, by decide⟩, by decide +kernel, by decide⟩
theorem kv_Model_answersNext : gKV "MatchMillModel" Y_Model_answersNext 1 := ⟨wI (i := 1409) (by decide +kernel), wP (i := 44) (by decide +kernel), wI (i := 1410) (by decide +kernel), rfl, wI (i := 13) (by decide +kernel), ⟨by decide, by decide⟩, by decide +kernel, by decide⟩
theorem kv_Model_answerRows : gKV "MatchMillModel" Y_Model_answerRows 6 := ⟨wI (i := 1413) (by decide +kernel), wP (i := 45) (by decide +kernel), wI (i := 1414) (by decide +kernel), rfl, wI (i := 13) (by decide +kernel), ⟨by decide, by decide⟩, by decide +kernel, by decide⟩
theorem kv_Model_opens : gKV "MatchMillModel" Y_Model_opens 3 := ⟨wI (i := 1417) (by decide +kernel), wP (i := 46) (by decide +kernel), wI (i := 1418) (by decide +kernel), rfl, wI (i := 13) (by decide +kernel), ⟨by decide, by decide⟩, by decide +kernel, by decide⟩
theorem kv_Model_inside : gKV "MatchMillModel" Y_Model_inside 3 := ⟨wI (i := 1421) (by decide +kernel), wP (i := 47) (by decide +kernel), wI (i := 1422) (by decide +kernel), rfl, wI (i := 13) (by decide +kernel), ⟨by decide, by decide⟩, by decide +kernel, by decide⟩
theorem kv_Model_other : gKV "MatchMillModel" Y_Model_other 3 := ⟨wI (i := 1425) (by decide +kernel), wP (i := 48) (by decide +kernel), wI (i := 1426) (by decide +kernel), rfl, wI (i := 13) (by decide +kernel), ⟨by decide, by decide⟩, by decide +kernel, by decide⟩
theorem kv_Model_isWished : gKV "MatchMillModel" Y_Model_isWished 4 := ⟨wI (i := 1429) (by decide +kernel), wP (i := 49) (by decide +kernel), wI (i := 1430) (by decide +kernel), rfl, wI (i := 13) (by decide +kernel), ⟨by decide, by decide⟩, by decide +kernel, by decide⟩
theorem kv_Model_match : gKV "MatchMillModel" Y_Model_match 1 := ⟨wI (i := 1432) (by decide +kernel), wI (i := 1433) (by decide +kernel), wI (i := 1434) (by decide +kernel), rfl, wI (i := 13) (by decide +kernel), ⟨by decide, by decide⟩, by decide +kernel, by decide⟩
theorem kv_Model_below : gKV "MatchMillModel" Y_Model_below 4 := ⟨wI (i := 1437) (by decide +kernel), wP (i := 50) (by decide +kernel), wI (i := 1438) (by decide +kernel), rfl, wI (i := 13) (by decide +kernel), ⟨by decide, by decide⟩, by decide +kernel, by decide⟩
theorem kv_Model_asked : gKV "MatchMillModel" Y_Model_asked 1 := ⟨wI (i := 1440) (by decide +kernel), wI (i := 1441) (by decide +kernel), wI (i := 1442) (by decide +kernel), rfl, wI (i := 13) (by decide +kernel), ⟨by decide, by decide⟩, by decide +kernel, by decide⟩
theorem kv_Model_bound : gKV "MatchMillModel" Y_Model_bound 1 := ⟨wI (i := 1444) (by decide +kernel), wI (i := 1445) (by decide +kernel), wI (i := 1446) (by decide +kernel), rfl, wI (i := 13) (by decide +kernel), ⟨by decide, by decide⟩, by decide +kernel, by decide⟩
theorem kv_Model_tell : gKV "MatchMillModel" Y_Model_tell 1 := ⟨wI (i := 1449) (by decide +kernel), wP (i := 51) (by decide +kernel), wI (i := 1450) (by decide +kernel), rfl, wI (i := 13) (by decide +kernel), ⟨by decide, by decide⟩, by decide +kernel, by decide⟩
theorem kv_Model_boundAt : gKV "MatchMillModel" Y_Model_boundAt 2 := ⟨wI (i := 1452) (by decide +kernel), wI (i := 1453) (by decide +kernel), wI (i := 1454) (by decide +kernel), rfl, wI (i := 13) (by decide +kernel), ⟨by decide, by decide⟩, by decide +kernel, by decide⟩
theorem kv_Model_missing : gKV "MatchMillModel" Y_Model_missing 1 := ⟨wI (i := 1456) (by decide +kernel), wI (i := 1457) (by decide +kernel), wI (i := 1458) (by decide +kernel), rfl, wI (i := 13) (by decide +kernel), ⟨by decide, by decide⟩, by decide +kernel, by decide⟩
theorem kv_Model_unused : gKV "MatchMillModel" Y_Model_unused 1 := ⟨wI (i := 1460) (by decide +kernel), wI (i := 1461) (by decide +kernel), wI (i := 1462) (by decide +kernel), rfl, wI (i := 13) (by decide +kernel), ⟨by decide, by decide⟩, by decide +kernel, by decide⟩
theorem kv_Model_question : gKV "MatchMillModel" Y_Model_question 2 := ⟨wI (i := 1464) (by decide +kernel), wI (i := 1465) (by decide +kernel), wI (i := 1466) (by decide +kernel), rfl, wI (i := 13) (by decide +kernel), ⟨by decide, by decide⟩, by decide +kernel, by decide⟩
theorem kv_Model_about : gKV "MatchMillModel" Y_Model_about 1 := ⟨wI (i := 1468) (by decide +kernel), wI (i := 1469) (by decide +kernel), wI (i := 1470) (by decide +kernel), rfl, wI (i := 13) (by decide +kernel), ⟨by decide, by decide⟩, by decide +kernel, by decide⟩
theorem kv_Model_clear : gKV "MatchMillModel" Y_Model_clear 0 := ⟨wI (i := 1472) (by decide +kernel), wI (i := 1473) (by decide +kernel), wI (i := 1474) (by decide +kernel), rfl, wI (i := 13) (by decide +kernel), ⟨by decide, by decide⟩, by decide +kernel, by decide⟩
theorem ks_Law_type : gKS Y_Law_type 3 := ⟨wI (i := 322) (by decide +kernel), wI (i := 323) (by decide +kernel), rfl, wI (i := 0) (by decide +kernel), ⟨by decide, by decide⟩, by decide +kernel, by decide⟩
theorem ks_Law_argument : gKS Y_Law_argument 5 := ⟨wI (i := 422) (by decide +kernel), wI (i := 423) (by decide +kernel), rfl, wI (i := 0) (by decide +kernel), ⟨by decide, by decide⟩, by decide +kernel, by decide⟩
theorem ks_Law_any : gKS Y_Law_any 3 := ⟨wI (i := 443) (by decide +kernel), wI (i := 444) (by decide +kernel), rfl, wI (i := 0) (by decide +kernel), ⟨by decide, by decide⟩, by decide +kernel, by decide⟩
theorem ks_Law_number : gKS Y_Law_number 5 := ⟨wI (i := 507) (by decide +kernel), wI (i := 508) (by decide +kernel), rfl, wI (i := 0) (by decide +kernel), ⟨by decide, by decide⟩, by decide +kernel, by decide⟩
theorem ks_Law_make : gKS Y_Law_make 5 := ⟨wI (i := 518) (by decide +kernel), wI (i := 519) (by decide +kernel), rfl, wI (i := 0) (by decide +kernel), ⟨by decide, by decide⟩, by decide +kernel, by decide⟩
theorem ks_Law_either : gKS Y_Law_either 2 := ⟨wI (i := 551) (by decide +kernel), wI (i := 552) (by decide +kernel), rfl, wI (i := 0) (by decide +kernel), ⟨by decide, by decide⟩, by decide +kernel, by decide⟩
theorem ks_Law_name : gKS Y_Law_name 3 := ⟨wI (i := 563) (by decide +kernel), wI (i := 564) (by decide +kernel), rfl, wI (i := 0) (by decide +kernel), ⟨by decide, by decide⟩, by decide +kernel, by decide⟩
theorem ks_Law_addCase : gKS Y_Law_addCase 3 := ⟨wI (i := 587) (by decide +kernel), wI (i := 588) (by decide +kernel), rfl, wI (i := 0) (by decide +kernel), ⟨by decide, by decide⟩, by decide +kernel, by decide⟩
theorem ks_Law_build : gKS Y_Law_build 2 := ⟨wI (i := 606) (by decide +kernel), wI (i := 607) (by decide +kernel), rfl, wI (i := 0) (by decide +kernel), ⟨by decide, by decide⟩, by decide +kernel, by decide⟩
theorem ks_Law_match : gKS Y_Law_match 3 := ⟨wI (i := 1021) (by decide +kernel), wI (i := 1022) (by decide +kernel), rfl, wI (i := 0) (by decide +kernel), ⟨by decide, by decide⟩, by decide +kernel, by decide⟩
theorem ks_Law_bound : gKS Y_Law_bound 3 := ⟨wI (i := 1061) (by decide +kernel), wI (i := 1062) (by decide +kernel), rfl, wI (i := 0) (by decide +kernel), ⟨by decide, by decide⟩, by decide +kernel, by decide⟩
theorem ks_Law_boundAt : gKS Y_Law_boundAt 4 := ⟨wI (i := 1072) (by decide +kernel), wI (i := 1073) (by decide +kernel), rfl, wI (i := 0) (by decide +kernel), ⟨by decide, by decide⟩, by decide +kernel, by decide⟩
theorem ks_Law_question : gKS Y_Law_question 4 := ⟨wI (i := 1087) (by decide +kernel), wI (i := 1088) (by decide +kernel), rfl, wI (i := 0) (by decide +kernel), ⟨by decide, by decide⟩, by decide +kernel, by decide⟩
theorem ks_Law_about : gKS Y_Law_about 3 := ⟨wI (i := 1098) (by decide +kernel), wI (i := 1099) (by decide +kernel), rfl, wI (i := 0) (by decide +kernel), ⟨by decide, by decide⟩, by decide +kernel, by decide⟩
theorem ml_Law_64 : Cond.methodLink "MatchMillLaw" 64 y_Mill_init ∈ lw_tbl := wI (i := 32) (by decide +kernel)
theorem ml_Mill_3 : Cond.methodLink "MatchMill" 3 y_Object_init ∈ lw_tbl := wI (i := 35) (by decide +kernel)
theorem ml_Mill_11 : Cond.methodLink "MatchMill" 11 y_Types_init ∈ lw_tbl := wI (i := 40) (by decide +kernel)
theorem ml_Types_3 : Cond.methodLink "MatchMill$Types" 3 y_Object_init ∈ lw_tbl := wI (i := 43) (by decide +kernel)
theorem ml_Types_21 : Cond.methodLink "MatchMill$Types" 21 y_Arrays_fill ∈ lw_tbl := wI (i := 44) (by decide +kernel)
theorem ml_Cases_3 : Cond.methodLink "MatchMill$Cases" 3 y_Object_init ∈ lw_tbl := wI (i := 63) (by decide +kernel)
theorem ml_Pile_3 : Cond.methodLink "MatchMill$Pile" 3 y_Object_init ∈ lw_tbl := wI (i := 82) (by decide +kernel)
theorem ml_Mill_35 : Cond.methodLink "MatchMill" 35 y_Tree_init ∈ lw_tbl := wI (i := 93) (by decide +kernel)
theorem ml_Tree_3 : Cond.methodLink "MatchMill$Tree" 3 y_Object_init ∈ lw_tbl := wI (i := 96) (by decide +kernel)
theorem ml_Rows_3 : Cond.methodLink "MatchMill$Rows" 3 y_Object_init ∈ lw_tbl := wI (i := 102) (by decide +kernel)
theorem ml_Rows_11 : Cond.methodLink "MatchMill$Rows" 11 y_ArrayList_init ∈ lw_tbl := wI (i := 105) (by decide +kernel)
theorem ml_ArrayList_1 : Cond.methodLink "java/util/ArrayList" 1 y_AbstractList_init ∈ lw_tbl := wI (i := 108) (by decide +kernel)
theorem ml_AbstractList_1 : Cond.methodLink "java/util/AbstractList" 1 y_AbstractCollection_init ∈ lw_tbl := wI (i := 111) (by decide +kernel)
theorem ml_AbstractCollection_1 : Cond.methodLink "java/util/AbstractCollection" 1 y_Object_init ∈ lw_tbl := wI (i := 114) (by decide +kernel)
theorem ml_Places_3 : Cond.methodLink "MatchMill$Places" 3 y_Object_init ∈ lw_tbl := wI (i := 141) (by decide +kernel)
theorem ml_Places_11 : Cond.methodLink "MatchMill$Places" 11 y_ArrayList_init ∈ lw_tbl := wI (i := 143) (by decide +kernel)
theorem ml_Tree_27 : Cond.methodLink "MatchMill$Tree" 27 y_ArrayList_init ∈ lw_tbl := wI (i := 152) (by decide +kernel)
theorem ml_Passage_3 : Cond.methodLink "MatchMill$Passage" 3 y_Object_init ∈ lw_tbl := wI (i := 201) (by decide +kernel)
theorem ml_Passage_23 : Cond.methodLink "MatchMill$Passage" 23 y_ArrayList_init ∈ lw_tbl := wI (i := 204) (by decide +kernel)
theorem ml_Law_99 : Cond.methodLink "MatchMillLaw" 99 y_Mill_pop ∈ lw_tbl := wI (i := 246) (by decide +kernel)
theorem ml_Mill_94 : Cond.methodLink "MatchMill" 94 y_Mill_pileOf ∈ lw_tbl := wI (i := 250) (by decide +kernel)
theorem ml_Mill_126 : Cond.methodLink "MatchMill" 126 y_Pile_fromTop ∈ lw_tbl := wI (i := 254) (by decide +kernel)
theorem ml_Mill_136 : Cond.methodLink "MatchMill" 136 y_Pile_drop ∈ lw_tbl := wI (i := 258) (by decide +kernel)
theorem ml_Pile_28 : Cond.methodLink "MatchMill$Pile" 28 y_Math_max ∈ lw_tbl := wI (i := 262) (by decide +kernel)
theorem ml_Law_113 : Cond.methodLink "MatchMillLaw" 113 y_Mill_asked ∈ lw_tbl := wI (i := 265) (by decide +kernel)
theorem ml_Mill_181 : Cond.methodLink "MatchMill" 181 y_Passage_questionAt ∈ lw_tbl := wI (i := 269) (by decide +kernel)
theorem ml_Law_124 : Cond.methodLink "MatchMillLaw" 124 y_Mill_missing ∈ lw_tbl := wI (i := 273) (by decide +kernel)
theorem ml_Mill_190 : Cond.methodLink "MatchMill" 190 y_Tree_missingAt ∈ lw_tbl := wI (i := 277) (by decide +kernel)
theorem ml_Law_128 : Cond.methodLink "MatchMillLaw" 128 y_Mill_unused ∈ lw_tbl := wI (i := 281) (by decide +kernel)
theorem ml_Mill_193 : Cond.methodLink "MatchMill" 193 y_Tree_unusedAt ∈ lw_tbl := wI (i := 285) (by decide +kernel)
theorem ml_Tree_266 : Cond.methodLink "MatchMill$Tree" 266 y_Cases_size ∈ lw_tbl := wI (i := 289) (by decide +kernel)
theorem ml_Law_138 : Cond.methodLink "MatchMillLaw" 138 y_Mill_clear ∈ lw_tbl := wI (i := 293) (by decide +kernel)
theorem ml_Mill_202 : Cond.methodLink "MatchMill" 202 y_Types_forget ∈ lw_tbl := wI (i := 297) (by decide +kernel)
theorem ml_Mill_113 : Cond.methodLink "MatchMill" 113 y_Pile_height ∈ lw_tbl := wI (i := 301) (by decide +kernel)
theorem ml_Mill_205 : Cond.methodLink "MatchMill" 205 y_Cases_forget ∈ lw_tbl := wI (i := 305) (by decide +kernel)
theorem ml_Mill_206 : Cond.methodLink "MatchMill" 206 y_Passage_forget ∈ lw_tbl := wI (i := 309) (by decide +kernel)
theorem ml_Passage_32 : Cond.methodLink "MatchMill$Passage" 32 y_ArrayList_clear ∈ lw_tbl := wI (i := 313) (by decide +kernel)
theorem ml_Mill_148 : Cond.methodLink "MatchMill" 148 y_Mill_forgetTree ∈ lw_tbl := wI (i := 317) (by decide +kernel)
theorem ml_Law_68 : Cond.methodLink "MatchMillLaw" 68 y_Law_type ∈ lw_tbl := wI (i := 321) (by decide +kernel)
theorem ml_Law_7 : Cond.methodLink "MatchMillLaw" 7 y_Mill_type ∈ lw_tbl := wI (i := 326) (by decide +kernel)
theorem ml_Mill_49 : Cond.methodLink "MatchMill" 49 y_Types_canBe ∈ lw_tbl := wI (i := 330) (by decide +kernel)
theorem ml_Throwable_1 : Cond.methodLink "java/lang/Throwable" 1 y_Object_init ∈ lw_tbl := wI (i := 359) (by decide +kernel)
theorem ml_Throwable_27 : Cond.methodLink "java/lang/Throwable" 27 (⟨"java/lang/Throwable", "fillInStackTrace", "()Ljava/lang/Throwable;"⟩ : MethodName) ∈ lw_tbl := wI (i := 364) (by decide +kernel)
theorem ml_Throwable_202 : Cond.methodLink "java/lang/Throwable" 202 (⟨"java/lang/Throwable", "fillInStackTrace", "(I)Ljava/lang/Throwable;"⟩ : MethodName) ∈ lw_tbl := wI (i := 370) (by decide +kernel)
theorem ml_Mill_55 : Cond.methodLink "MatchMill" 55 y_IAE_init ∈ lw_tbl := wI (i := 375) (by decide +kernel)
theorem ml_IAE_1 : Cond.methodLink "java/lang/IllegalArgumentException" 1 y_RuntimeException_init ∈ lw_tbl := wI (i := 378) (by decide +kernel)
theorem ml_RuntimeException_1 : Cond.methodLink "java/lang/RuntimeException" 1 y_Exception_init ∈ lw_tbl := wI (i := 381) (by decide +kernel)
theorem ml_Exception_1 : Cond.methodLink "java/lang/Exception" 1 y_Throwable_init ∈ lw_tbl := wI (i := 384) (by decide +kernel)
theorem ml_Mill_60 : Cond.methodLink "MatchMill" 60 y_Types_isTold ∈ lw_tbl := wI (i := 397) (by decide +kernel)
theorem ml_Types_27 : Cond.methodLink "MatchMill$Types" 27 y_Types_canBe ∈ lw_tbl := wI (i := 401) (by decide +kernel)
theorem ml_Mill_65 : Cond.methodLink "MatchMill" 65 y_ISE_init ∈ lw_tbl := wI (i := 411) (by decide +kernel)
theorem ml_ISE_1 : Cond.methodLink "java/lang/IllegalStateException" 1 y_RuntimeException_init ∈ lw_tbl := wI (i := 414) (by decide +kernel)
theorem ml_Mill_66 : Cond.methodLink "MatchMill" 66 y_Types_tell ∈ lw_tbl := wI (i := 417) (by decide +kernel)
theorem ml_Law_77 : Cond.methodLink "MatchMillLaw" 77 y_Law_argument ∈ lw_tbl := wI (i := 421) (by decide +kernel)
theorem ml_Law_17 : Cond.methodLink "MatchMillLaw" 17 y_Mill_argument ∈ lw_tbl := wI (i := 424) (by decide +kernel)
theorem ml_Mill_70 : Cond.methodLink "MatchMill" 70 y_Types_hasConstructor ∈ lw_tbl := wI (i := 428) (by decide +kernel)
theorem ml_Types_31 : Cond.methodLink "MatchMill$Types" 31 y_Types_isTold ∈ lw_tbl := wI (i := 432) (by decide +kernel)
theorem ml_Mill_74 : Cond.methodLink "MatchMill" 74 y_Types_arity ∈ lw_tbl := wI (i := 433) (by decide +kernel)
theorem ml_Types_34 : Cond.methodLink "MatchMill$Types" 34 y_Types_hasConstructor ∈ lw_tbl := wI (i := 437) (by decide +kernel)
theorem ml_Mill_78 : Cond.methodLink "MatchMill" 78 y_Types_addArgument ∈ lw_tbl := wI (i := 438) (by decide +kernel)
theorem ml_Law_81 : Cond.methodLink "MatchMillLaw" 81 y_Law_any ∈ lw_tbl := wI (i := 442) (by decide +kernel)
theorem ml_Law_21 : Cond.methodLink "MatchMillLaw" 21 y_Mill_any ∈ lw_tbl := wI (i := 445) (by decide +kernel)
theorem ml_Mill_84 : Cond.methodLink "MatchMill" 84 y_Term_init ∈ lw_tbl := wI (i := 451) (by decide +kernel)
theorem ml_Term_3 : Cond.methodLink "MatchMill$Term" 3 y_Object_init ∈ lw_tbl := wI (i := 454) (by decide +kernel)
theorem ml_Mill_87 : Cond.methodLink "MatchMill" 87 y_Mill_put ∈ lw_tbl := wI (i := 494) (by decide +kernel)
theorem ml_Mill_207 : Cond.methodLink "MatchMill" 207 y_Pile_isFull ∈ lw_tbl := wI (i := 498) (by decide +kernel)
theorem ml_Mill_210 : Cond.methodLink "MatchMill" 210 y_Pile_lay ∈ lw_tbl := wI (i := 502) (by decide +kernel)
theorem ml_Law_85 : Cond.methodLink "MatchMillLaw" 85 y_Law_number ∈ lw_tbl := wI (i := 506) (by decide +kernel)
theorem ml_Law_25 : Cond.methodLink "MatchMillLaw" 25 y_Mill_number ∈ lw_tbl := wI (i := 509) (by decide +kernel)
theorem ml_Mill_91 : Cond.methodLink "MatchMill" 91 y_Types_isOfNumbers ∈ lw_tbl := wI (i := 513) (by decide +kernel)
theorem ml_Law_89 : Cond.methodLink "MatchMillLaw" 89 y_Law_make ∈ lw_tbl := wI (i := 517) (by decide +kernel)
theorem ml_Law_29 : Cond.methodLink "MatchMillLaw" 29 y_Mill_make ∈ lw_tbl := wI (i := 520) (by decide +kernel)
theorem ml_Mill_98 : Cond.methodLink "MatchMill" 98 y_Types_areArguments ∈ lw_tbl := wI (i := 524) (by decide +kernel)
theorem ml_Types_38 : Cond.methodLink "MatchMill$Types" 38 y_Types_arity ∈ lw_tbl := wI (i := 528) (by decide +kernel)
theorem ml_Types_42 : Cond.methodLink "MatchMill$Types" 42 y_Pile_height ∈ lw_tbl := wI (i := 529) (by decide +kernel)
theorem ml_Types_48 : Cond.methodLink "MatchMill$Types" 48 y_Pile_typeAt ∈ lw_tbl := wI (i := 530) (by decide +kernel)
theorem ml_Pile_21 : Cond.methodLink "MatchMill$Pile" 21 y_Pile_fromTop ∈ lw_tbl := wI (i := 534) (by decide +kernel)
theorem ml_Mill_102 : Cond.methodLink "MatchMill" 102 y_Pile_shareNames ∈ lw_tbl := wI (i := 535) (by decide +kernel)
theorem ml_Mill_105 : Cond.methodLink "MatchMill" 105 y_Pile_sizeOf ∈ lw_tbl := wI (i := 539) (by decide +kernel)
theorem ml_Mill_109 : Cond.methodLink "MatchMill" 109 y_Pile_take ∈ lw_tbl := wI (i := 543) (by decide +kernel)
theorem ml_Pile_34 : Cond.methodLink "MatchMill$Pile" 34 y_Math_min ∈ lw_tbl := wI (i := 547) (by decide +kernel)
theorem ml_Law_92 : Cond.methodLink "MatchMillLaw" 92 y_Law_either ∈ lw_tbl := wI (i := 550) (by decide +kernel)
theorem ml_Law_32 : Cond.methodLink "MatchMillLaw" 32 y_Mill_either ∈ lw_tbl := wI (i := 553) (by decide +kernel)
theorem ml_Mill_117 : Cond.methodLink "MatchMill" 117 y_Pile_areAlike ∈ lw_tbl := wI (i := 557) (by decide +kernel)
theorem ml_Mill_120 : Cond.methodLink "MatchMill" 120 y_Pile_typeAt ∈ lw_tbl := wI (i := 561) (by decide +kernel)
theorem ml_Law_96 : Cond.methodLink "MatchMillLaw" 96 y_Law_name ∈ lw_tbl := wI (i := 562) (by decide +kernel)
theorem ml_Law_36 : Cond.methodLink "MatchMillLaw" 36 y_Mill_name ∈ lw_tbl := wI (i := 565) (by decide +kernel)
theorem ml_Mill_123 : Cond.methodLink "MatchMill" 123 y_Mill_isName ∈ lw_tbl := wI (i := 569) (by decide +kernel)
theorem ml_Mill_130 : Cond.methodLink "MatchMill" 130 y_Term_hasName ∈ lw_tbl := wI (i := 572) (by decide +kernel)
theorem ml_Mill_133 : Cond.methodLink "MatchMill" 133 y_Term_addName ∈ lw_tbl := wI (i := 576) (by decide +kernel)
theorem ml_Term_34 : Cond.methodLink "MatchMill$Term" 34 y_Integer_bitCount ∈ lw_tbl := wI (i := 580) (by decide +kernel)
theorem ml_Law_103 : Cond.methodLink "MatchMillLaw" 103 y_Law_addCase ∈ lw_tbl := wI (i := 586) (by decide +kernel)
theorem ml_Law_39 : Cond.methodLink "MatchMillLaw" 39 y_Mill_addCase ∈ lw_tbl := wI (i := 589) (by decide +kernel)
theorem ml_Mill_144 : Cond.methodLink "MatchMill" 144 y_Cases_accepts ∈ lw_tbl := wI (i := 593) (by decide +kernel)
theorem ml_Cases_28 : Cond.methodLink "MatchMill$Cases" 28 y_Cases_areOf ∈ lw_tbl := wI (i := 597) (by decide +kernel)
theorem ml_Mill_151 : Cond.methodLink "MatchMill" 151 y_Cases_add ∈ lw_tbl := wI (i := 601) (by decide +kernel)
theorem ml_Law_107 : Cond.methodLink "MatchMillLaw" 107 y_Law_build ∈ lw_tbl := wI (i := 605) (by decide +kernel)
theorem ml_Law_43 : Cond.methodLink "MatchMillLaw" 43 y_Mill_build ∈ lw_tbl := wI (i := 609) (by decide +kernel)
theorem ml_Mill_155 : Cond.methodLink "MatchMill" 155 y_Cases_size ∈ lw_tbl := wI (i := 613) (by decide +kernel)
theorem ml_Mill_163 : Cond.methodLink "MatchMill" 163 y_Tree_grow ∈ lw_tbl := wI (i := 614) (by decide +kernel)
theorem ml_Tree_51 : Cond.methodLink "MatchMill$Tree" 51 y_Tree_begin ∈ lw_tbl := wI (i := 618) (by decide +kernel)
theorem ml_Tree_89 : Cond.methodLink "MatchMill$Tree" 89 y_Rows_cutTo ∈ lw_tbl := wI (i := 622) (by decide +kernel)
theorem ml_Rows_22 : Cond.methodLink "MatchMill$Rows" 22 y_Math_min ∈ lw_tbl := wI (i := 626) (by decide +kernel)
theorem ml_Tree_92 : Cond.methodLink "MatchMill$Tree" 92 y_Places_begin ∈ lw_tbl := wI (i := 627) (by decide +kernel)
theorem ml_Places_22 : Cond.methodLink "MatchMill$Places" 22 y_Places_add ∈ lw_tbl := wI (i := 631) (by decide +kernel)
theorem ml_Places_53 : Cond.methodLink "MatchMill$Places" 53 y_ArrayList_size ∈ lw_tbl := wI (i := 635) (by decide +kernel)
theorem ml_Place_3 : Cond.methodLink "MatchMill$Place" 3 y_Object_init ∈ lw_tbl := wI (i := 644) (by decide +kernel)
theorem ml_Places_58 : Cond.methodLink "MatchMill$Places" 58 y_ArrayList_add ∈ lw_tbl := wI (i := 666) (by decide +kernel)
theorem ml_ArrayList_131 : Cond.methodLink "java/util/ArrayList" 131 y_ArrayList_add2 ∈ lw_tbl := wI (i := 670) (by decide +kernel)
theorem ml_ArrayList_129 : Cond.methodLink "java/util/ArrayList" 129 y_ArrayList_grow ∈ lw_tbl := wI (i := 674) (by decide +kernel)
theorem ml_ArrayList_69 : Cond.methodLink "java/util/ArrayList" 69 y_ArrayList_grow2 ∈ lw_tbl := wI (i := 678) (by decide +kernel)
theorem ml_ArrayList_73 : Cond.methodLink "java/util/ArrayList" 73 y_ArraysSupport_newLength ∈ lw_tbl := wI (i := 682) (by decide +kernel)
theorem ml_ArraysSupport_194 : Cond.methodLink "jdk/internal/util/ArraysSupport" 194 y_Math_max ∈ lw_tbl := wI (i := 685) (by decide +kernel)
theorem ml_ArraysSupport_201 : Cond.methodLink "jdk/internal/util/ArraysSupport" 201 y_ArraysSupport_hugeLength ∈ lw_tbl := wI (i := 687) (by decide +kernel)
theorem ml_ArrayList_66 : Cond.methodLink "java/util/ArrayList" 66 y_Arrays_copyOf ∈ lw_tbl := wI (i := 690) (by decide +kernel)
theorem ml_Arrays_86 : Cond.methodLink "java/util/Arrays" 86 (⟨"java/lang/Object", "getClass", "()Ljava/lang/Class;"⟩ : MethodName) ∈ lw_tbl := wI (i := 693) (by decide +kernel)
theorem ml_Arrays_300 : Cond.methodLink "java/util/Arrays" 300 y_Arrays_copyOf2 ∈ lw_tbl := wI (i := 714) (by decide +kernel)
theorem ml_Arrays_304 : Cond.methodLink "java/util/Arrays" 304 y_Math_min ∈ lw_tbl := wI (i := 720) (by decide +kernel)
theorem ml_Arrays_150 : Cond.methodLink "java/util/Arrays" 150 (⟨"java/lang/System", "arraycopy", "(Ljava/lang/Object;ILjava/lang/Object;II)V"⟩ : MethodName) ∈ lw_tbl := wI (i := 721) (by decide +kernel)
theorem ml_ArrayList_79 : Cond.methodLink "java/util/ArrayList" 79 y_Math_max ∈ lw_tbl := wI (i := 724) (by decide +kernel)
theorem ml_Places_26 : Cond.methodLink "MatchMill$Places" 26 y_ArrayList_get ∈ lw_tbl := wI (i := 726) (by decide +kernel)
theorem ml_ArrayList_118 : Cond.methodLink "java/util/ArrayList" 118 y_Objects_checkIndex ∈ lw_tbl := wI (i := 730) (by decide +kernel)
theorem ml_Objects_105 : Cond.methodLink "java/util/Objects" 105 y_Preconditions_checkIndex ∈ lw_tbl := wI (i := 733) (by decide +kernel)
theorem ml_ArrayList_123 : Cond.methodLink "java/util/ArrayList" 123 y_ArrayList_elementData ∈ lw_tbl := wI (i := 736) (by decide +kernel)
theorem ml_Places_61 : Cond.methodLink "MatchMill$Places" 61 y_Place_begin ∈ lw_tbl := wI (i := 740) (by decide +kernel)
theorem ml_Place_15 : Cond.methodLink "MatchMill$Place" 15 y_Place_leave ∈ lw_tbl := wI (i := 744) (by decide +kernel)
theorem ml_Tree_54 : Cond.methodLink "MatchMill$Tree" 54 y_Rows_putCases ∈ lw_tbl := wI (i := 748) (by decide +kernel)
theorem ml_Rows_34 : Cond.methodLink "MatchMill$Rows" 34 y_Cases_size ∈ lw_tbl := wI (i := 752) (by decide +kernel)
theorem ml_Rows_40 : Cond.methodLink "MatchMill$Rows" 40 y_Rows_insert ∈ lw_tbl := wI (i := 753) (by decide +kernel)
theorem ml_Rows_96 : Cond.methodLink "MatchMill$Rows" 96 y_ArrayList_size ∈ lw_tbl := wI (i := 757) (by decide +kernel)
theorem ml_Row_3 : Cond.methodLink "MatchMill$Row" 3 y_Object_init ∈ lw_tbl := wI (i := 763) (by decide +kernel)
theorem ml_Rows_98 : Cond.methodLink "MatchMill$Rows" 98 y_ArrayList_add ∈ lw_tbl := wI (i := 787) (by decide +kernel)
theorem ml_Rows_102 : Cond.methodLink "MatchMill$Rows" 102 y_ArrayList_remove ∈ lw_tbl := wI (i := 788) (by decide +kernel)
theorem ml_ArrayList_144 : Cond.methodLink "java/util/ArrayList" 144 y_ArrayList_fastRemove ∈ lw_tbl := wI (i := 792) (by decide +kernel)
theorem ml_ArrayList_112 : Cond.methodLink "java/util/ArrayList" 112 (⟨"java/lang/System", "arraycopy", "(Ljava/lang/Object;ILjava/lang/Object;II)V"⟩ : MethodName) ∈ lw_tbl := wI (i := 796) (by decide +kernel)
theorem ml_Rows_105 : Cond.methodLink "MatchMill$Rows" 105 y_ArrayList_add3 ∈ lw_tbl := wI (i := 797) (by decide +kernel)
theorem ml_ArrayList_135 : Cond.methodLink "java/util/ArrayList" 135 y_ArrayList_rangeCheckForAdd ∈ lw_tbl := wI (i := 801) (by decide +kernel)
theorem ml_Rows_28 : Cond.methodLink "MatchMill$Rows" 28 y_ArrayList_get ∈ lw_tbl := wI (i := 805) (by decide +kernel)
theorem ml_Rows_44 : Cond.methodLink "MatchMill$Rows" 44 y_Cases_patternOf ∈ lw_tbl := wI (i := 806) (by decide +kernel)
theorem ml_Rows_48 : Cond.methodLink "MatchMill$Rows" 48 y_Row_begin ∈ lw_tbl := wI (i := 810) (by decide +kernel)
theorem ml_Row_28 : Cond.methodLink "MatchMill$Row" 28 y_Arrays_fill ∈ lw_tbl := wI (i := 814) (by decide +kernel)
theorem ml_Rows_52 : Cond.methodLink "MatchMill$Rows" 52 y_Rows_part ∈ lw_tbl := wI (i := 815) (by decide +kernel)
theorem ml_Rows_90 : Cond.methodLink "MatchMill$Rows" 90 y_Row_tidy ∈ lw_tbl := wI (i := 819) (by decide +kernel)
theorem ml_Row_40 : Cond.methodLink "MatchMill$Row" 40 y_Row_bindNames ∈ lw_tbl := wI (i := 823) (by decide +kernel)
theorem ml_Row_47 : Cond.methodLink "MatchMill$Row" 47 y_Row_moveWishes ∈ lw_tbl := wI (i := 827) (by decide +kernel)
theorem ml_Rows_79 : Cond.methodLink "MatchMill$Rows" 79 y_Row_become ∈ lw_tbl := wI (i := 831) (by decide +kernel)
theorem ml_Rows_93 : Cond.methodLink "MatchMill$Rows" 93 y_Row_choose ∈ lw_tbl := wI (i := 835) (by decide +kernel)
theorem ml_Tree_58 : Cond.methodLink "MatchMill$Tree" 58 y_Tree_plant ∈ lw_tbl := wI (i := 839) (by decide +kernel)
theorem ml_Tree_122 : Cond.methodLink "MatchMill$Tree" 122 y_Rows_size ∈ lw_tbl := wI (i := 843) (by decide +kernel)
theorem ml_Tree_133 : Cond.methodLink "MatchMill$Tree" 133 y_Rows_rowAt ∈ lw_tbl := wI (i := 847) (by decide +kernel)
theorem ml_Tree_158 : Cond.methodLink "MatchMill$Tree" 158 y_Row_hasWishes ∈ lw_tbl := wI (i := 851) (by decide +kernel)
theorem ml_Tree_162 : Cond.methodLink "MatchMill$Tree" 162 y_Tree_ask ∈ lw_tbl := wI (i := 855) (by decide +kernel)
theorem ml_Tree_185 : Cond.methodLink "MatchMill$Tree" 185 y_Tree_nextQuestion ∈ lw_tbl := wI (i := 859) (by decide +kernel)
theorem ml_Tree_227 : Cond.methodLink "MatchMill$Tree" 227 y_ArrayList_size ∈ lw_tbl := wI (i := 863) (by decide +kernel)
theorem ml_Question_1 : Cond.methodLink "MatchMill$Question" 1 y_Object_init ∈ lw_tbl := wI (i := 869) (by decide +kernel)
theorem ml_Tree_229 : Cond.methodLink "MatchMill$Tree" 229 y_ArrayList_add ∈ lw_tbl := wI (i := 914) (by decide +kernel)
theorem ml_Tree_63 : Cond.methodLink "MatchMill$Tree" 63 y_ArrayList_get ∈ lw_tbl := wI (i := 915) (by decide +kernel)
theorem ml_Tree_199 : Cond.methodLink "MatchMill$Tree" 199 y_Places_distanceOf ∈ lw_tbl := wI (i := 916) (by decide +kernel)
theorem ml_Tree_206 : Cond.methodLink "MatchMill$Tree" 206 y_Places_size ∈ lw_tbl := wI (i := 920) (by decide +kernel)
theorem ml_Tree_215 : Cond.methodLink "MatchMill$Tree" 215 y_Tree_keepNumbers ∈ lw_tbl := wI (i := 924) (by decide +kernel)
theorem ml_Tree_233 : Cond.methodLink "MatchMill$Tree" 233 y_Row_wishFor ∈ lw_tbl := wI (i := 928) (by decide +kernel)
theorem ml_Tree_239 : Cond.methodLink "MatchMill$Tree" 239 y_Tree_keepNumber ∈ lw_tbl := wI (i := 932) (by decide +kernel)
theorem ml_Tree_219 : Cond.methodLink "MatchMill$Tree" 219 y_Types_constructorsOf ∈ lw_tbl := wI (i := 936) (by decide +kernel)
theorem ml_Tree_222 : Cond.methodLink "MatchMill$Tree" 222 y_Math_max ∈ lw_tbl := wI (i := 940) (by decide +kernel)
theorem ml_Tree_168 : Cond.methodLink "MatchMill$Tree" 168 y_Cases_isGuarded ∈ lw_tbl := wI (i := 941) (by decide +kernel)
theorem ml_Tree_174 : Cond.methodLink "MatchMill$Tree" 174 y_Rows_leaveOut ∈ lw_tbl := wI (i := 945) (by decide +kernel)
theorem ml_Rows_111 : Cond.methodLink "MatchMill$Rows" 111 y_ArrayList_set ∈ lw_tbl := wI (i := 949) (by decide +kernel)
theorem ml_Tree_178 : Cond.methodLink "MatchMill$Tree" 178 y_Tree_fail ∈ lw_tbl := wI (i := 953) (by decide +kernel)
theorem ml_Tree_181 : Cond.methodLink "MatchMill$Tree" 181 y_Places_tellAll ∈ lw_tbl := wI (i := 957) (by decide +kernel)
theorem ml_Places_64 : Cond.methodLink "MatchMill$Places" 64 y_Places_tell ∈ lw_tbl := wI (i := 961) (by decide +kernel)
theorem ml_Tree_78 : Cond.methodLink "MatchMill$Tree" 78 y_Places_leave ∈ lw_tbl := wI (i := 966) (by decide +kernel)
theorem ml_Places_50 : Cond.methodLink "MatchMill$Places" 50 y_Place_leave ∈ lw_tbl := wI (i := 970) (by decide +kernel)
theorem ml_Tree_85 : Cond.methodLink "MatchMill$Tree" 85 y_Tree_follow ∈ lw_tbl := wI (i := 971) (by decide +kernel)
theorem ml_Tree_111 : Cond.methodLink "MatchMill$Tree" 111 y_Tree_meaning ∈ lw_tbl := wI (i := 975) (by decide +kernel)
theorem ml_Tree_115 : Cond.methodLink "MatchMill$Tree" 115 y_Tree_arityBehind ∈ lw_tbl := wI (i := 979) (by decide +kernel)
theorem ml_Tree_152 : Cond.methodLink "MatchMill$Tree" 152 y_Types_arity ∈ lw_tbl := wI (i := 983) (by decide +kernel)
theorem ml_Tree_118 : Cond.methodLink "MatchMill$Tree" 118 y_Places_answer ∈ lw_tbl := wI (i := 984) (by decide +kernel)
theorem ml_Places_46 : Cond.methodLink "MatchMill$Places" 46 y_Place_answer ∈ lw_tbl := wI (i := 988) (by decide +kernel)
theorem ml_Tree_126 : Cond.methodLink "MatchMill$Tree" 126 y_Rows_putAnswer ∈ lw_tbl := wI (i := 992) (by decide +kernel)
theorem ml_Rows_66 : Cond.methodLink "MatchMill$Rows" 66 y_Row_wishFor ∈ lw_tbl := wI (i := 996) (by decide +kernel)
theorem ml_Rows_86 : Cond.methodLink "MatchMill$Rows" 86 y_Row_open ∈ lw_tbl := wI (i := 997) (by decide +kernel)
theorem ml_Mill_169 : Cond.methodLink "MatchMill" 169 y_UOE_init ∈ lw_tbl := wI (i := 1010) (by decide +kernel)
theorem ml_UOE_1 : Cond.methodLink "java/lang/UnsupportedOperationException" 1 y_RuntimeException_init ∈ lw_tbl := wI (i := 1013) (by decide +kernel)
theorem ml_Mill_170 : Cond.methodLink "MatchMill" 170 y_Tree_size ∈ lw_tbl := wI (i := 1016) (by decide +kernel)
theorem ml_Law_110 : Cond.methodLink "MatchMillLaw" 110 y_Law_match ∈ lw_tbl := wI (i := 1020) (by decide +kernel)
theorem ml_Law_48 : Cond.methodLink "MatchMillLaw" 48 y_Mill_match ∈ lw_tbl := wI (i := 1023) (by decide +kernel)
theorem ml_Mill_174 : Cond.methodLink "MatchMill" 174 y_Cases_areOf ∈ lw_tbl := wI (i := 1027) (by decide +kernel)
theorem ml_Mill_177 : Cond.methodLink "MatchMill" 177 y_Tree_lead ∈ lw_tbl := wI (i := 1028) (by decide +kernel)
theorem ml_Tree_242 : Cond.methodLink "MatchMill$Tree" 242 y_Passage_begin ∈ lw_tbl := wI (i := 1032) (by decide +kernel)
theorem ml_Passage_35 : Cond.methodLink "MatchMill$Passage" 35 y_Passage_forget ∈ lw_tbl := wI (i := 1036) (by decide +kernel)
theorem ml_Passage_38 : Cond.methodLink "MatchMill$Passage" 38 y_ArrayList_add ∈ lw_tbl := wI (i := 1037) (by decide +kernel)
theorem ml_Tree_247 : Cond.methodLink "MatchMill$Tree" 247 y_Tree_firstHeld ∈ lw_tbl := wI (i := 1038) (by decide +kernel)
theorem ml_Tree_251 : Cond.methodLink "MatchMill$Tree" 251 y_Tree_questionBehind ∈ lw_tbl := wI (i := 1042) (by decide +kernel)
theorem ml_Tree_254 : Cond.methodLink "MatchMill$Tree" 254 y_Passage_meet ∈ lw_tbl := wI (i := 1046) (by decide +kernel)
theorem ml_Passage_42 : Cond.methodLink "MatchMill$Passage" 42 y_ArrayList_get ∈ lw_tbl := wI (i := 1050) (by decide +kernel)
theorem ml_Tree_258 : Cond.methodLink "MatchMill$Tree" 258 y_Tree_answerFor ∈ lw_tbl := wI (i := 1051) (by decide +kernel)
theorem ml_Tree_262 : Cond.methodLink "MatchMill$Tree" 262 y_Passage_bind ∈ lw_tbl := wI (i := 1055) (by decide +kernel)
theorem ml_Passage_54 : Cond.methodLink "MatchMill$Passage" 54 y_ArrayList_size ∈ lw_tbl := wI (i := 1059) (by decide +kernel)
theorem ml_Law_117 : Cond.methodLink "MatchMillLaw" 117 y_Law_bound ∈ lw_tbl := wI (i := 1060) (by decide +kernel)
theorem ml_Law_51 : Cond.methodLink "MatchMillLaw" 51 y_Mill_bound ∈ lw_tbl := wI (i := 1063) (by decide +kernel)
theorem ml_Mill_184 : Cond.methodLink "MatchMill" 184 y_Passage_lengthOf ∈ lw_tbl := wI (i := 1067) (by decide +kernel)
theorem ml_Law_120 : Cond.methodLink "MatchMillLaw" 120 y_Law_boundAt ∈ lw_tbl := wI (i := 1071) (by decide +kernel)
theorem ml_Law_54 : Cond.methodLink "MatchMillLaw" 54 y_Mill_boundAt ∈ lw_tbl := wI (i := 1074) (by decide +kernel)
theorem ml_Mill_187 : Cond.methodLink "MatchMill" 187 y_Passage_toldOf ∈ lw_tbl := wI (i := 1078) (by decide +kernel)
theorem ml_Passage_60 : Cond.methodLink "MatchMill$Passage" 60 y_Term_partAt ∈ lw_tbl := wI (i := 1082) (by decide +kernel)
theorem ml_Law_132 : Cond.methodLink "MatchMillLaw" 132 y_Law_question ∈ lw_tbl := wI (i := 1086) (by decide +kernel)
theorem ml_Law_58 : Cond.methodLink "MatchMillLaw" 58 y_Mill_question ∈ lw_tbl := wI (i := 1089) (by decide +kernel)
theorem ml_Mill_196 : Cond.methodLink "MatchMill" 196 y_Tree_factOf ∈ lw_tbl := wI (i := 1093) (by decide +kernel)
theorem ml_Law_135 : Cond.methodLink "MatchMillLaw" 135 y_Law_about ∈ lw_tbl := wI (i := 1097) (by decide +kernel)
theorem ml_Law_61 : Cond.methodLink "MatchMillLaw" 61 y_Mill_about ∈ lw_tbl := wI (i := 1100) (by decide +kernel)
theorem ml_Mill_199 : Cond.methodLink "MatchMill" 199 y_Tree_total ∈ lw_tbl := wI (i := 1104) (by decide +kernel)
theorem ml_Law_67 : Cond.methodLink "MatchMillLaw" 67 y_Model_init ∈ lw_tbl := wI (i := 1110) (by decide +kernel)
theorem ml_Model_1 : Cond.methodLink "MatchMillModel" 1 y_Object_init ∈ lw_tbl := wI (i := 1113) (by decide +kernel)
theorem ml_Model_135 : Cond.methodLink "MatchMillModel" 135 y_Model_forget ∈ lw_tbl := wI (i := 1118) (by decide +kernel)
theorem ml_Law_74 : Cond.methodLink "MatchMillLaw" 74 y_Model_thrown ∈ lw_tbl := wI (i := 1302) (by decide +kernel)
theorem ml_Law_73 : Cond.methodLink "MatchMillLaw" 73 y_Model_type ∈ lw_tbl := wI (i := 1306) (by decide +kernel)
theorem ml_Model_153 : Cond.methodLink "MatchMillModel" 153 y_Model_refuses ∈ lw_tbl := wI (i := 1310) (by decide +kernel)
theorem ml_Law_80 : Cond.methodLink "MatchMillLaw" 80 y_Model_argument ∈ lw_tbl := wI (i := 1314) (by decide +kernel)
theorem ml_Model_156 : Cond.methodLink "MatchMillModel" 156 y_Model_isMaker ∈ lw_tbl := wI (i := 1318) (by decide +kernel)
theorem ml_Model_145 : Cond.methodLink "MatchMillModel" 145 y_Model_isType ∈ lw_tbl := wI (i := 1322) (by decide +kernel)
theorem ml_Law_84 : Cond.methodLink "MatchMillLaw" 84 y_Model_any ∈ lw_tbl := wI (i := 1326) (by decide +kernel)
theorem ml_Model_169 : Cond.methodLink "MatchMillModel" 169 y_Model_node ∈ lw_tbl := wI (i := 1330) (by decide +kernel)
theorem ml_Model_173 : Cond.methodLink "MatchMillModel" 173 y_Model_push ∈ lw_tbl := wI (i := 1334) (by decide +kernel)
theorem ml_Law_88 : Cond.methodLink "MatchMillLaw" 88 y_Model_number ∈ lw_tbl := wI (i := 1338) (by decide +kernel)
theorem ml_Model_177 : Cond.methodLink "MatchMillModel" 177 y_Model_height ∈ lw_tbl := wI (i := 1342) (by decide +kernel)
theorem ml_Law_91 : Cond.methodLink "MatchMillLaw" 91 y_Model_make ∈ lw_tbl := wI (i := 1346) (by decide +kernel)
theorem ml_Law_95 : Cond.methodLink "MatchMillLaw" 95 y_Model_either ∈ lw_tbl := wI (i := 1350) (by decide +kernel)
theorem ml_Law_98 : Cond.methodLink "MatchMillLaw" 98 y_Model_name ∈ lw_tbl := wI (i := 1354) (by decide +kernel)
theorem ml_Law_102 : Cond.methodLink "MatchMillLaw" 102 y_Model_pop ∈ lw_tbl := wI (i := 1358) (by decide +kernel)
theorem ml_Law_106 : Cond.methodLink "MatchMillLaw" 106 y_Model_addCase ∈ lw_tbl := wI (i := 1362) (by decide +kernel)
theorem ml_Law_109 : Cond.methodLink "MatchMillLaw" 109 y_Model_build ∈ lw_tbl := wI (i := 1366) (by decide +kernel)
theorem ml_Model_246 : Cond.methodLink "MatchMillModel" 246 y_Model_firstRows ∈ lw_tbl := wI (i := 1370) (by decide +kernel)
theorem ml_Model_198 : Cond.methodLink "MatchMillModel" 198 y_Model_settle ∈ lw_tbl := wI (i := 1375) (by decide +kernel)
theorem ml_Model_188 : Cond.methodLink "MatchMillModel" 188 y_Model_copyRow ∈ lw_tbl := wI (i := 1379) (by decide +kernel)
theorem ml_Model_249 : Cond.methodLink "MatchMillModel" 249 y_Model_tellMissing ∈ lw_tbl := wI (i := 1383) (by decide +kernel)
theorem ml_Model_252 : Cond.methodLink "MatchMillModel" 252 y_Model_otherRows ∈ lw_tbl := wI (i := 1387) (by decide +kernel)
theorem ml_Model_255 : Cond.methodLink "MatchMillModel" 255 y_Model_asks ∈ lw_tbl := wI (i := 1391) (by decide +kernel)
theorem ml_Model_261 : Cond.methodLink "MatchMillModel" 261 y_Model_answers ∈ lw_tbl := wI (i := 1395) (by decide +kernel)
theorem ml_Model_217 : Cond.methodLink "MatchMillModel" 217 y_Model_above ∈ lw_tbl := wI (i := 1399) (by decide +kernel)
theorem ml_Model_205 : Cond.methodLink "MatchMillModel" 205 y_Model_wish ∈ lw_tbl := wI (i := 1403) (by decide +kernel)
theorem ml_Model_258 : Cond.methodLink "MatchMillModel" 258 y_Model_answersNext ∈ lw_tbl := wI (i := 1407) (by decide +kernel)
theorem ml_Model_264 : Cond.methodLink "MatchMillModel" 264 y_Model_answerRows ∈ lw_tbl := wI (i := 1411) (by decide +kernel)
theorem ml_Model_209 : Cond.methodLink "MatchMillModel" 209 y_Model_opens ∈ lw_tbl := wI (i := 1415) (by decide +kernel)
theorem ml_Model_213 : Cond.methodLink "MatchMillModel" 213 y_Model_inside ∈ lw_tbl := wI (i := 1419) (by decide +kernel)
theorem ml_Model_268 : Cond.methodLink "MatchMillModel" 268 y_Model_other ∈ lw_tbl := wI (i := 1423) (by decide +kernel)
theorem ml_Model_221 : Cond.methodLink "MatchMillModel" 221 y_Model_isWished ∈ lw_tbl := wI (i := 1427) (by decide +kernel)
theorem ml_Law_112 : Cond.methodLink "MatchMillLaw" 112 y_Model_match ∈ lw_tbl := wI (i := 1431) (by decide +kernel)
theorem ml_Model_271 : Cond.methodLink "MatchMillModel" 271 y_Model_below ∈ lw_tbl := wI (i := 1435) (by decide +kernel)
theorem ml_Law_116 : Cond.methodLink "MatchMillLaw" 116 y_Model_asked ∈ lw_tbl := wI (i := 1439) (by decide +kernel)
theorem ml_Law_119 : Cond.methodLink "MatchMillLaw" 119 y_Model_bound ∈ lw_tbl := wI (i := 1443) (by decide +kernel)
theorem ml_Model_278 : Cond.methodLink "MatchMillModel" 278 y_Model_tell ∈ lw_tbl := wI (i := 1447) (by decide +kernel)
theorem ml_Law_123 : Cond.methodLink "MatchMillLaw" 123 y_Model_boundAt ∈ lw_tbl := wI (i := 1451) (by decide +kernel)
theorem ml_Law_127 : Cond.methodLink "MatchMillLaw" 127 y_Model_missing ∈ lw_tbl := wI (i := 1455) (by decide +kernel)
theorem ml_Law_131 : Cond.methodLink "MatchMillLaw" 131 y_Model_unused ∈ lw_tbl := wI (i := 1459) (by decide +kernel)
theorem ml_Law_134 : Cond.methodLink "MatchMillLaw" 134 y_Model_question ∈ lw_tbl := wI (i := 1463) (by decide +kernel)
theorem ml_Law_137 : Cond.methodLink "MatchMillLaw" 137 y_Model_about ∈ lw_tbl := wI (i := 1467) (by decide +kernel)
theorem ml_Law_141 : Cond.methodLink "MatchMillLaw" 141 y_Model_clear ∈ lw_tbl := wI (i := 1471) (by decide +kernel)
theorem ml_Mill_14 : Cond.methodLinkNest "MatchMill" 14 y_Cases_init "MatchMill" ∈ lw_tbl := wI (i := 60) (by decide +kernel)
theorem ml_Mill_25 : Cond.methodLinkNest "MatchMill" 25 y_Pile_init "MatchMill" ∈ lw_tbl := wI (i := 79) (by decide +kernel)
theorem ml_Tree_11 : Cond.methodLinkNest "MatchMill$Tree" 11 y_Rows_init "MatchMill" ∈ lw_tbl := wI (i := 99) (by decide +kernel)
theorem ml_Tree_20 : Cond.methodLinkNest "MatchMill$Tree" 20 y_Places_init "MatchMill" ∈ lw_tbl := wI (i := 138) (by decide +kernel)
theorem ml_Mill_44 : Cond.methodLinkNest "MatchMill" 44 y_Passage_init "MatchMill" ∈ lw_tbl := wI (i := 198) (by decide +kernel)
theorem ml_Places_57 : Cond.methodLinkNest "MatchMill$Places" 57 y_Place_init "MatchMill" ∈ lw_tbl := wI (i := 641) (by decide +kernel)
theorem ml_Rows_97 : Cond.methodLinkNest "MatchMill$Rows" 97 y_Row_init "MatchMill" ∈ lw_tbl := wI (i := 760) (by decide +kernel)
theorem ml_Tree_228 : Cond.methodLinkNest "MatchMill$Tree" 228 y_Question_init "MatchMill" ∈ lw_tbl := wI (i := 866) (by decide +kernel)
theorem fl_Types_9 : gFld "MatchMill$Types" 9 T_Types 0 := ⟨"MatchMill$Types", wI (i := 47) (by decide +kernel), Or.inl rfl⟩
theorem fl_Types_15 : gFld "MatchMill$Types" 15 T_Types 1 := ⟨"MatchMill$Types", wI (i := 48) (by decide +kernel), Or.inl rfl⟩
theorem fl_Types_18 : gFld "MatchMill$Types" 18 T_Types 2 := ⟨"MatchMill$Types", wI (i := 49) (by decide +kernel), Or.inl rfl⟩
theorem fl_Cases_11 : gFld "MatchMill$Cases" 11 T_Cases 0 := ⟨"MatchMill$Cases", wI (i := 66) (by decide +kernel), Or.inl rfl⟩
theorem fl_Cases_17 : gFld "MatchMill$Cases" 17 T_Cases 1 := ⟨"MatchMill$Cases", wI (i := 67) (by decide +kernel), Or.inl rfl⟩
theorem fl_Cases_21 : gFld "MatchMill$Cases" 21 T_Cases 2 := ⟨"MatchMill$Cases", wI (i := 68) (by decide +kernel), Or.inl rfl⟩
theorem fl_Pile_11 : gFld "MatchMill$Pile" 11 T_Pile 0 := ⟨"MatchMill$Pile", wI (i := 84) (by decide +kernel), Or.inl rfl⟩
theorem fl_Pile_17 : gFld "MatchMill$Pile" 17 T_Pile 1 := ⟨"MatchMill$Pile", wI (i := 85) (by decide +kernel), Or.inl rfl⟩
theorem fl_ArrayList_9 : gFld "java/util/ArrayList" 9 T_ArrayList 1 := ⟨"java/util/ArrayList", wI (i := 117) (by decide +kernel), Or.inl rfl⟩
theorem fl_ArrayList_48 : gFld "java/util/ArrayList" 48 T_ArrayList 2 := ⟨"java/util/ArrayList", wI (i := 118) (by decide +kernel), Or.inl rfl⟩
theorem fl_AbstractList_7 : gFld "java/util/AbstractList" 7 T_ArrayList 0 := ⟨"java/util/AbstractList", wI (i := 119) (by decide +kernel), Or.inl rfl⟩
theorem fl_ArrayList_63 : gFld "java/util/ArrayList" 63 T_ArrayList 0 := ⟨"java/util/ArrayList", wI (i := 120) (by decide +kernel), Or.inr (wI (i := 121) (by decide +kernel))⟩
theorem fl_Rows_12 : gFld "MatchMill$Rows" 12 T_Rows 0 := ⟨"MatchMill$Rows", wI (i := 129) (by decide +kernel), Or.inl rfl⟩
theorem fl_Rows_18 : gFld "MatchMill$Rows" 18 T_Rows 1 := ⟨"MatchMill$Rows", wI (i := 130) (by decide +kernel), Or.inl rfl⟩
theorem fl_Places_12 : gFld "MatchMill$Places" 12 T_Places 0 := ⟨"MatchMill$Places", wI (i := 144) (by decide +kernel), Or.inl rfl⟩
theorem fl_Places_18 : gFld "MatchMill$Places" 18 T_Places 1 := ⟨"MatchMill$Places", wI (i := 145) (by decide +kernel), Or.inl rfl⟩
theorem fl_Tree_39 : gFld "MatchMill$Tree" 39 T_Tree 0 := ⟨"MatchMill$Tree", wI (i := 153) (by decide +kernel), Or.inl rfl⟩
theorem fl_Tree_43 : gFld "MatchMill$Tree" 43 T_Tree 1 := ⟨"MatchMill$Tree", wI (i := 154) (by decide +kernel), Or.inl rfl⟩
theorem fl_Tree_12 : gFld "MatchMill$Tree" 12 T_Tree 2 := ⟨"MatchMill$Tree", wI (i := 155) (by decide +kernel), Or.inl rfl⟩
theorem fl_Tree_21 : gFld "MatchMill$Tree" 21 T_Tree 3 := ⟨"MatchMill$Tree", wI (i := 156) (by decide +kernel), Or.inl rfl⟩
theorem fl_Tree_28 : gFld "MatchMill$Tree" 28 T_Tree 4 := ⟨"MatchMill$Tree", wI (i := 157) (by decide +kernel), Or.inl rfl⟩
theorem fl_Tree_32 : gFld "MatchMill$Tree" 32 T_Tree 5 := ⟨"MatchMill$Tree", wI (i := 158) (by decide +kernel), Or.inl rfl⟩
theorem fl_Tree_36 : gFld "MatchMill$Tree" 36 T_Tree 6 := ⟨"MatchMill$Tree", wI (i := 159) (by decide +kernel), Or.inl rfl⟩
theorem fl_Tree_47 : gFld "MatchMill$Tree" 47 T_Tree 7 := ⟨"MatchMill$Tree", wI (i := 160) (by decide +kernel), Or.inl rfl⟩
theorem fl_Tree_93 : gFld "MatchMill$Tree" 93 T_Tree 8 := ⟨"MatchMill$Tree", wI (i := 161) (by decide +kernel), Or.inl rfl⟩
theorem fl_Tree_96 : gFld "MatchMill$Tree" 96 T_Tree 9 := ⟨"MatchMill$Tree", wI (i := 162) (by decide +kernel), Or.inl rfl⟩
theorem fl_Tree_99 : gFld "MatchMill$Tree" 99 T_Tree 10 := ⟨"MatchMill$Tree", wI (i := 163) (by decide +kernel), Or.inl rfl⟩
theorem fl_Tree_102 : gFld "MatchMill$Tree" 102 T_Tree 11 := ⟨"MatchMill$Tree", wI (i := 164) (by decide +kernel), Or.inl rfl⟩
theorem fl_Tree_105 : gFld "MatchMill$Tree" 105 T_Tree 12 := ⟨"MatchMill$Tree", wI (i := 165) (by decide +kernel), Or.inl rfl⟩
theorem fl_Tree_108 : gFld "MatchMill$Tree" 108 T_Tree 13 := ⟨"MatchMill$Tree", wI (i := 166) (by decide +kernel), Or.inl rfl⟩
theorem fl_Passage_9 : gFld "MatchMill$Passage" 9 T_Passage 0 := ⟨"MatchMill$Passage", wI (i := 205) (by decide +kernel), Or.inl rfl⟩
theorem fl_Passage_17 : gFld "MatchMill$Passage" 17 T_Passage 1 := ⟨"MatchMill$Passage", wI (i := 206) (by decide +kernel), Or.inl rfl⟩
theorem fl_Passage_24 : gFld "MatchMill$Passage" 24 T_Passage 2 := ⟨"MatchMill$Passage", wI (i := 207) (by decide +kernel), Or.inl rfl⟩
theorem fl_Passage_28 : gFld "MatchMill$Passage" 28 T_Passage 3 := ⟨"MatchMill$Passage", wI (i := 208) (by decide +kernel), Or.inl rfl⟩
theorem fl_Mill_15 : gFld "MatchMill" 15 T_Mill 0 := ⟨"MatchMill", wI (i := 218) (by decide +kernel), Or.inl rfl⟩
theorem fl_Mill_26 : gFld "MatchMill" 26 T_Mill 1 := ⟨"MatchMill", wI (i := 219) (by decide +kernel), Or.inl rfl⟩
theorem fl_Mill_30 : gFld "MatchMill" 30 T_Mill 2 := ⟨"MatchMill", wI (i := 220) (by decide +kernel), Or.inl rfl⟩
theorem fl_Mill_19 : gFld "MatchMill" 19 T_Mill 3 := ⟨"MatchMill", wI (i := 221) (by decide +kernel), Or.inl rfl⟩
theorem fl_Mill_38 : gFld "MatchMill" 38 T_Mill 4 := ⟨"MatchMill", wI (i := 222) (by decide +kernel), Or.inl rfl⟩
theorem fl_Mill_45 : gFld "MatchMill" 45 T_Mill 5 := ⟨"MatchMill", wI (i := 223) (by decide +kernel), Or.inl rfl⟩
theorem fl_Mill_56 : gFld "MatchMill" 56 T_Mill 6 := ⟨"MatchMill", wI (i := 224) (by decide +kernel), Or.inl rfl⟩
theorem fl_Mill_157 : gFld "MatchMill" 157 T_Mill 7 := ⟨"MatchMill", wI (i := 225) (by decide +kernel), Or.inl rfl⟩
theorem fl_Mill_160 : gFld "MatchMill" 160 T_Mill 8 := ⟨"MatchMill", wI (i := 226) (by decide +kernel), Or.inl rfl⟩
theorem fl_Term_9 : gFld "MatchMill$Term" 9 T_Term 0 := ⟨"MatchMill$Term", wI (i := 455) (by decide +kernel), Or.inl rfl⟩
theorem fl_Cases_25 : gFld "MatchMill$Cases" 25 T_Term 0 := ⟨"MatchMill$Term", wI (i := 456) (by decide +kernel), Or.inl rfl⟩
theorem fl_Pile_25 : gFld "MatchMill$Pile" 25 T_Term 0 := ⟨"MatchMill$Term", wI (i := 457) (by decide +kernel), Or.inl rfl⟩
theorem fl_Tree_147 : gFld "MatchMill$Tree" 147 T_Term 0 := ⟨"MatchMill$Term", wI (i := 458) (by decide +kernel), Or.inl rfl⟩
theorem fl_Mill_171 : gFld "MatchMill" 171 T_Term 0 := ⟨"MatchMill$Term", wI (i := 459) (by decide +kernel), Or.inl rfl⟩
theorem fl_Term_15 : gFld "MatchMill$Term" 15 T_Term 1 := ⟨"MatchMill$Term", wI (i := 460) (by decide +kernel), Or.inl rfl⟩
theorem fl_Row_44 : gFld "MatchMill$Row" 44 T_Term 1 := ⟨"MatchMill$Term", wI (i := 461) (by decide +kernel), Or.inl rfl⟩
theorem fl_Passage_64 : gFld "MatchMill$Passage" 64 T_Term 1 := ⟨"MatchMill$Term", wI (i := 462) (by decide +kernel), Or.inl rfl⟩
theorem fl_Tree_209 : gFld "MatchMill$Tree" 209 T_Term 1 := ⟨"MatchMill$Term", wI (i := 463) (by decide +kernel), Or.inl rfl⟩
theorem fl_Term_18 : gFld "MatchMill$Term" 18 T_Term 2 := ⟨"MatchMill$Term", wI (i := 464) (by decide +kernel), Or.inl rfl⟩
theorem fl_Rows_74 : gFld "MatchMill$Rows" 74 T_Term 2 := ⟨"MatchMill$Term", wI (i := 465) (by decide +kernel), Or.inl rfl⟩
theorem fl_Passage_67 : gFld "MatchMill$Passage" 67 T_Term 2 := ⟨"MatchMill$Term", wI (i := 466) (by decide +kernel), Or.inl rfl⟩
theorem fl_Tree_236 : gFld "MatchMill$Tree" 236 T_Term 2 := ⟨"MatchMill$Term", wI (i := 467) (by decide +kernel), Or.inl rfl⟩
theorem fl_Term_21 : gFld "MatchMill$Term" 21 T_Term 3 := ⟨"MatchMill$Term", wI (i := 468) (by decide +kernel), Or.inl rfl⟩
theorem fl_Passage_46 : gFld "MatchMill$Passage" 46 T_Term 3 := ⟨"MatchMill$Term", wI (i := 469) (by decide +kernel), Or.inl rfl⟩
theorem fl_Row_50 : gFld "MatchMill$Row" 50 T_Term 3 := ⟨"MatchMill$Term", wI (i := 470) (by decide +kernel), Or.inl rfl⟩
theorem fl_Term_25 : gFld "MatchMill$Term" 25 T_Term 4 := ⟨"MatchMill$Term", wI (i := 471) (by decide +kernel), Or.inl rfl⟩
theorem fl_Passage_58 : gFld "MatchMill$Passage" 58 T_Term 4 := ⟨"MatchMill$Term", wI (i := 472) (by decide +kernel), Or.inl rfl⟩
theorem fl_Mill_140 : gFld "MatchMill" 140 T_Term 4 := ⟨"MatchMill$Term", wI (i := 473) (by decide +kernel), Or.inl rfl⟩
theorem fl_Pile_37 : gFld "MatchMill$Pile" 37 T_Term 4 := ⟨"MatchMill$Term", wI (i := 474) (by decide +kernel), Or.inl rfl⟩
theorem fl_Term_31 : gFld "MatchMill$Term" 31 T_Term 5 := ⟨"MatchMill$Term", wI (i := 475) (by decide +kernel), Or.inl rfl⟩
theorem fl_Row_37 : gFld "MatchMill$Row" 37 T_Term 5 := ⟨"MatchMill$Term", wI (i := 476) (by decide +kernel), Or.inl rfl⟩
theorem fl_Term_28 : gFld "MatchMill$Term" 28 T_Term 6 := ⟨"MatchMill$Term", wI (i := 477) (by decide +kernel), Or.inl rfl⟩
theorem fl_Pile_40 : gFld "MatchMill$Pile" 40 T_Term 6 := ⟨"MatchMill$Term", wI (i := 478) (by decide +kernel), Or.inl rfl⟩
theorem fl_Place_9 : gFld "MatchMill$Place" 9 T_Place 0 := ⟨"MatchMill$Place", wI (i := 645) (by decide +kernel), Or.inl rfl⟩
theorem fl_Places_32 : gFld "MatchMill$Places" 32 T_Place 0 := ⟨"MatchMill$Place", wI (i := 646) (by decide +kernel), Or.inl rfl⟩
theorem fl_Place_18 : gFld "MatchMill$Place" 18 T_Place 1 := ⟨"MatchMill$Place", wI (i := 647) (by decide +kernel), Or.inl rfl⟩
theorem fl_Places_68 : gFld "MatchMill$Places" 68 T_Place 1 := ⟨"MatchMill$Place", wI (i := 648) (by decide +kernel), Or.inl rfl⟩
theorem fl_Place_21 : gFld "MatchMill$Place" 21 T_Place 2 := ⟨"MatchMill$Place", wI (i := 649) (by decide +kernel), Or.inl rfl⟩
theorem fl_Places_71 : gFld "MatchMill$Places" 71 T_Place 2 := ⟨"MatchMill$Place", wI (i := 650) (by decide +kernel), Or.inl rfl⟩
theorem fl_Place_24 : gFld "MatchMill$Place" 24 T_Place 3 := ⟨"MatchMill$Place", wI (i := 651) (by decide +kernel), Or.inl rfl⟩
theorem fl_Places_77 : gFld "MatchMill$Places" 77 T_Place 3 := ⟨"MatchMill$Place", wI (i := 652) (by decide +kernel), Or.inl rfl⟩
theorem fl_Place_27 : gFld "MatchMill$Place" 27 T_Place 4 := ⟨"MatchMill$Place", wI (i := 653) (by decide +kernel), Or.inl rfl⟩
theorem fl_Places_74 : gFld "MatchMill$Places" 74 T_Place 4 := ⟨"MatchMill$Place", wI (i := 654) (by decide +kernel), Or.inl rfl⟩
theorem fl_Row_9 : gFld "MatchMill$Row" 9 T_Row 0 := ⟨"MatchMill$Row", wI (i := 765) (by decide +kernel), Or.inl rfl⟩
theorem fl_Tree_197 : gFld "MatchMill$Tree" 197 T_Row 0 := ⟨"MatchMill$Row", wI (i := 766) (by decide +kernel), Or.inl rfl⟩
theorem fl_Row_17 : gFld "MatchMill$Row" 17 T_Row 1 := ⟨"MatchMill$Row", wI (i := 767) (by decide +kernel), Or.inl rfl⟩
theorem fl_Tree_141 : gFld "MatchMill$Tree" 141 T_Row 1 := ⟨"MatchMill$Row", wI (i := 768) (by decide +kernel), Or.inl rfl⟩
theorem fl_Rows_70 : gFld "MatchMill$Rows" 70 T_Row 1 := ⟨"MatchMill$Row", wI (i := 769) (by decide +kernel), Or.inl rfl⟩
theorem fl_Row_21 : gFld "MatchMill$Row" 21 T_Row 2 := ⟨"MatchMill$Row", wI (i := 770) (by decide +kernel), Or.inl rfl⟩
theorem fl_Passage_49 : gFld "MatchMill$Passage" 49 T_Row 2 := ⟨"MatchMill$Row", wI (i := 771) (by decide +kernel), Or.inl rfl⟩
theorem fl_Row_24 : gFld "MatchMill$Row" 24 T_Row 3 := ⟨"MatchMill$Row", wI (i := 772) (by decide +kernel), Or.inl rfl⟩
theorem fl_Tree_165 : gFld "MatchMill$Tree" 165 T_Row 3 := ⟨"MatchMill$Row", wI (i := 773) (by decide +kernel), Or.inl rfl⟩
theorem fl_Rows_108 : gFld "MatchMill$Rows" 108 T_Row 3 := ⟨"MatchMill$Row", wI (i := 774) (by decide +kernel), Or.inl rfl⟩
theorem fl_Row_34 : gFld "MatchMill$Row" 34 T_Row 4 := ⟨"MatchMill$Row", wI (i := 775) (by decide +kernel), Or.inl rfl⟩
theorem fl_Tree_130 : gFld "MatchMill$Tree" 130 T_Question 0 := ⟨"MatchMill$Question", wI (i := 870) (by decide +kernel), Or.inl rfl⟩
theorem fl_Rows_56 : gFld "MatchMill$Rows" 56 T_Question 0 := ⟨"MatchMill$Question", wI (i := 871) (by decide +kernel), Or.inl rfl⟩
theorem fl_Rows_61 : gFld "MatchMill$Rows" 61 T_Question 1 := ⟨"MatchMill$Question", wI (i := 872) (by decide +kernel), Or.inl rfl⟩
theorem fl_Tree_195 : gFld "MatchMill$Tree" 195 T_Question 1 := ⟨"MatchMill$Question", wI (i := 873) (by decide +kernel), Or.inl rfl⟩
theorem fl_Tree_75 : gFld "MatchMill$Tree" 75 T_Question 2 := ⟨"MatchMill$Question", wI (i := 874) (by decide +kernel), Or.inl rfl⟩
theorem fl_Places_35 : gFld "MatchMill$Places" 35 T_Question 2 := ⟨"MatchMill$Question", wI (i := 875) (by decide +kernel), Or.inl rfl⟩
theorem fl_Rows_63 : gFld "MatchMill$Rows" 63 T_Question 2 := ⟨"MatchMill$Question", wI (i := 876) (by decide +kernel), Or.inl rfl⟩
theorem fl_Tree_203 : gFld "MatchMill$Tree" 203 T_Question 3 := ⟨"MatchMill$Question", wI (i := 877) (by decide +kernel), Or.inl rfl⟩
theorem fl_Places_44 : gFld "MatchMill$Places" 44 T_Question 4 := ⟨"MatchMill$Question", wI (i := 878) (by decide +kernel), Or.inl rfl⟩
theorem fl_Rows_83 : gFld "MatchMill$Rows" 83 T_Question 4 := ⟨"MatchMill$Question", wI (i := 879) (by decide +kernel), Or.inl rfl⟩
theorem fl_Tree_207 : gFld "MatchMill$Tree" 207 T_Question 4 := ⟨"MatchMill$Question", wI (i := 880) (by decide +kernel), Or.inl rfl⟩
theorem fl_Places_40 : gFld "MatchMill$Places" 40 T_Question 5 := ⟨"MatchMill$Question", wI (i := 881) (by decide +kernel), Or.inl rfl⟩
theorem fl_Tree_137 : gFld "MatchMill$Tree" 137 T_Question 5 := ⟨"MatchMill$Question", wI (i := 882) (by decide +kernel), Or.inl rfl⟩
theorem fl_Tree_212 : gFld "MatchMill$Tree" 212 T_Question 6 := ⟨"MatchMill$Question", wI (i := 883) (by decide +kernel), Or.inl rfl⟩
theorem fl_Tree_72 : gFld "MatchMill$Tree" 72 T_Question 7 := ⟨"MatchMill$Question", wI (i := 884) (by decide +kernel), Or.inl rfl⟩
theorem fl_Tree_192 : gFld "MatchMill$Tree" 192 T_Question 8 := ⟨"MatchMill$Question", wI (i := 885) (by decide +kernel), Or.inl rfl⟩
theorem fl_Tree_82 : gFld "MatchMill$Tree" 82 T_Question 9 := ⟨"MatchMill$Question", wI (i := 886) (by decide +kernel), Or.inl rfl⟩
theorem fl_Tree_189 : gFld "MatchMill$Tree" 189 T_Question 10 := ⟨"MatchMill$Question", wI (i := 887) (by decide +kernel), Or.inl rfl⟩
theorem fl_Tree_69 : gFld "MatchMill$Tree" 69 T_Question 11 := ⟨"MatchMill$Question", wI (i := 888) (by decide +kernel), Or.inl rfl⟩
theorem fl_Model_138 : gFld "MatchMillModel" 138 T_Model 0 := ⟨"MatchMillModel", wI (i := 1122) (by decide +kernel), Or.inl rfl⟩
theorem fl_Model_7 : gFld "MatchMillModel" 7 T_Model 1 := ⟨"MatchMillModel", wI (i := 1123) (by decide +kernel), Or.inl rfl⟩
theorem fl_Model_13 : gFld "MatchMillModel" 13 T_Model 2 := ⟨"MatchMillModel", wI (i := 1124) (by decide +kernel), Or.inl rfl⟩
theorem fl_Model_16 : gFld "MatchMillModel" 16 T_Model 3 := ⟨"MatchMillModel", wI (i := 1125) (by decide +kernel), Or.inl rfl⟩
theorem fl_Model_149 : gFld "MatchMillModel" 149 T_Model 4 := ⟨"MatchMillModel", wI (i := 1126) (by decide +kernel), Or.inl rfl⟩
theorem fl_Model_160 : gFld "MatchMillModel" 160 T_Model 5 := ⟨"MatchMillModel", wI (i := 1127) (by decide +kernel), Or.inl rfl⟩
theorem fl_Model_19 : gFld "MatchMillModel" 19 T_Model 6 := ⟨"MatchMillModel", wI (i := 1128) (by decide +kernel), Or.inl rfl⟩
theorem fl_Model_22 : gFld "MatchMillModel" 22 T_Model 7 := ⟨"MatchMillModel", wI (i := 1129) (by decide +kernel), Or.inl rfl⟩
theorem fl_Model_25 : gFld "MatchMillModel" 25 T_Model 8 := ⟨"MatchMillModel", wI (i := 1130) (by decide +kernel), Or.inl rfl⟩
theorem fl_Model_28 : gFld "MatchMillModel" 28 T_Model 9 := ⟨"MatchMillModel", wI (i := 1131) (by decide +kernel), Or.inl rfl⟩
theorem fl_Model_31 : gFld "MatchMillModel" 31 T_Model 10 := ⟨"MatchMillModel", wI (i := 1132) (by decide +kernel), Or.inl rfl⟩
theorem fl_Model_34 : gFld "MatchMillModel" 34 T_Model 11 := ⟨"MatchMillModel", wI (i := 1133) (by decide +kernel), Or.inl rfl⟩
theorem fl_Model_37 : gFld "MatchMillModel" 37 T_Model 12 := ⟨"MatchMillModel", wI (i := 1134) (by decide +kernel), Or.inl rfl⟩
theorem fl_Model_40 : gFld "MatchMillModel" 40 T_Model 13 := ⟨"MatchMillModel", wI (i := 1135) (by decide +kernel), Or.inl rfl⟩
theorem fl_Model_166 : gFld "MatchMillModel" 166 T_Model 14 := ⟨"MatchMillModel", wI (i := 1136) (by decide +kernel), Or.inl rfl⟩
theorem fl_Model_163 : gFld "MatchMillModel" 163 T_Model 15 := ⟨"MatchMillModel", wI (i := 1137) (by decide +kernel), Or.inl rfl⟩
theorem fl_Model_181 : gFld "MatchMillModel" 181 T_Model 16 := ⟨"MatchMillModel", wI (i := 1138) (by decide +kernel), Or.inl rfl⟩
theorem fl_Model_43 : gFld "MatchMillModel" 43 T_Model 17 := ⟨"MatchMillModel", wI (i := 1139) (by decide +kernel), Or.inl rfl⟩
theorem fl_Model_46 : gFld "MatchMillModel" 46 T_Model 18 := ⟨"MatchMillModel", wI (i := 1140) (by decide +kernel), Or.inl rfl⟩
theorem fl_Model_184 : gFld "MatchMillModel" 184 T_Model 19 := ⟨"MatchMillModel", wI (i := 1141) (by decide +kernel), Or.inl rfl⟩
theorem fl_Model_225 : gFld "MatchMillModel" 225 T_Model 20 := ⟨"MatchMillModel", wI (i := 1142) (by decide +kernel), Or.inl rfl⟩
theorem fl_Model_228 : gFld "MatchMillModel" 228 T_Model 21 := ⟨"MatchMillModel", wI (i := 1143) (by decide +kernel), Or.inl rfl⟩
theorem fl_Model_231 : gFld "MatchMillModel" 231 T_Model 22 := ⟨"MatchMillModel", wI (i := 1144) (by decide +kernel), Or.inl rfl⟩
theorem fl_Model_234 : gFld "MatchMillModel" 234 T_Model 23 := ⟨"MatchMillModel", wI (i := 1145) (by decide +kernel), Or.inl rfl⟩
theorem fl_Model_237 : gFld "MatchMillModel" 237 T_Model 24 := ⟨"MatchMillModel", wI (i := 1146) (by decide +kernel), Or.inl rfl⟩
theorem fl_Model_240 : gFld "MatchMillModel" 240 T_Model 25 := ⟨"MatchMillModel", wI (i := 1147) (by decide +kernel), Or.inl rfl⟩
theorem fl_Model_243 : gFld "MatchMillModel" 243 T_Model 26 := ⟨"MatchMillModel", wI (i := 1148) (by decide +kernel), Or.inl rfl⟩
theorem fl_Model_50 : gFld "MatchMillModel" 50 T_Model 27 := ⟨"MatchMillModel", wI (i := 1149) (by decide +kernel), Or.inl rfl⟩
theorem fl_Model_53 : gFld "MatchMillModel" 53 T_Model 28 := ⟨"MatchMillModel", wI (i := 1150) (by decide +kernel), Or.inl rfl⟩
theorem fl_Model_56 : gFld "MatchMillModel" 56 T_Model 29 := ⟨"MatchMillModel", wI (i := 1151) (by decide +kernel), Or.inl rfl⟩
theorem fl_Model_59 : gFld "MatchMillModel" 59 T_Model 30 := ⟨"MatchMillModel", wI (i := 1152) (by decide +kernel), Or.inl rfl⟩
theorem fl_Model_62 : gFld "MatchMillModel" 62 T_Model 31 := ⟨"MatchMillModel", wI (i := 1153) (by decide +kernel), Or.inl rfl⟩
theorem fl_Model_65 : gFld "MatchMillModel" 65 T_Model 32 := ⟨"MatchMillModel", wI (i := 1154) (by decide +kernel), Or.inl rfl⟩
theorem fl_Model_68 : gFld "MatchMillModel" 68 T_Model 33 := ⟨"MatchMillModel", wI (i := 1155) (by decide +kernel), Or.inl rfl⟩
theorem fl_Model_202 : gFld "MatchMillModel" 202 T_Model 34 := ⟨"MatchMillModel", wI (i := 1156) (by decide +kernel), Or.inl rfl⟩
theorem fl_Model_71 : gFld "MatchMillModel" 71 T_Model 35 := ⟨"MatchMillModel", wI (i := 1157) (by decide +kernel), Or.inl rfl⟩
theorem fl_Model_74 : gFld "MatchMillModel" 74 T_Model 36 := ⟨"MatchMillModel", wI (i := 1158) (by decide +kernel), Or.inl rfl⟩
theorem fl_Model_78 : gFld "MatchMillModel" 78 T_Model 37 := ⟨"MatchMillModel", wI (i := 1159) (by decide +kernel), Or.inl rfl⟩
theorem fl_Model_81 : gFld "MatchMillModel" 81 T_Model 38 := ⟨"MatchMillModel", wI (i := 1160) (by decide +kernel), Or.inl rfl⟩
theorem fl_Model_84 : gFld "MatchMillModel" 84 T_Model 39 := ⟨"MatchMillModel", wI (i := 1161) (by decide +kernel), Or.inl rfl⟩
theorem fl_Model_87 : gFld "MatchMillModel" 87 T_Model 40 := ⟨"MatchMillModel", wI (i := 1162) (by decide +kernel), Or.inl rfl⟩
theorem fl_Model_91 : gFld "MatchMillModel" 91 T_Model 41 := ⟨"MatchMillModel", wI (i := 1163) (by decide +kernel), Or.inl rfl⟩
theorem fl_Model_94 : gFld "MatchMillModel" 94 T_Model 42 := ⟨"MatchMillModel", wI (i := 1164) (by decide +kernel), Or.inl rfl⟩
theorem fl_Model_98 : gFld "MatchMillModel" 98 T_Model 43 := ⟨"MatchMillModel", wI (i := 1165) (by decide +kernel), Or.inl rfl⟩
theorem fl_Model_101 : gFld "MatchMillModel" 101 T_Model 44 := ⟨"MatchMillModel", wI (i := 1166) (by decide +kernel), Or.inl rfl⟩
theorem fl_Model_105 : gFld "MatchMillModel" 105 T_Model 45 := ⟨"MatchMillModel", wI (i := 1167) (by decide +kernel), Or.inl rfl⟩
theorem fl_Model_192 : gFld "MatchMillModel" 192 T_Model 46 := ⟨"MatchMillModel", wI (i := 1168) (by decide +kernel), Or.inl rfl⟩
theorem fl_Model_195 : gFld "MatchMillModel" 195 T_Model 47 := ⟨"MatchMillModel", wI (i := 1169) (by decide +kernel), Or.inl rfl⟩
theorem fl_Model_108 : gFld "MatchMillModel" 108 T_Model 48 := ⟨"MatchMillModel", wI (i := 1170) (by decide +kernel), Or.inl rfl⟩
theorem fl_Model_111 : gFld "MatchMillModel" 111 T_Model 49 := ⟨"MatchMillModel", wI (i := 1171) (by decide +kernel), Or.inl rfl⟩
theorem fl_Model_114 : gFld "MatchMillModel" 114 T_Model 50 := ⟨"MatchMillModel", wI (i := 1172) (by decide +kernel), Or.inl rfl⟩
theorem fl_Model_117 : gFld "MatchMillModel" 117 T_Model 51 := ⟨"MatchMillModel", wI (i := 1173) (by decide +kernel), Or.inl rfl⟩
theorem fl_Model_120 : gFld "MatchMillModel" 120 T_Model 52 := ⟨"MatchMillModel", wI (i := 1174) (by decide +kernel), Or.inl rfl⟩
theorem fl_Model_123 : gFld "MatchMillModel" 123 T_Model 53 := ⟨"MatchMillModel", wI (i := 1175) (by decide +kernel), Or.inl rfl⟩
theorem fl_Model_142 : gFld "MatchMillModel" 142 T_Model 54 := ⟨"MatchMillModel", wI (i := 1176) (by decide +kernel), Or.inl rfl⟩
theorem fl_Model_126 : gFld "MatchMillModel" 126 T_Model 55 := ⟨"MatchMillModel", wI (i := 1177) (by decide +kernel), Or.inl rfl⟩
theorem fl_Model_129 : gFld "MatchMillModel" 129 T_Model 56 := ⟨"MatchMillModel", wI (i := 1178) (by decide +kernel), Or.inl rfl⟩
theorem fl_Model_132 : gFld "MatchMillModel" 132 T_Model 57 := ⟨"MatchMillModel", wI (i := 1179) (by decide +kernel), Or.inl rfl⟩
theorem fl_Model_275 : gFld "MatchMillModel" 275 T_Model 58 := ⟨"MatchMillModel", wI (i := 1180) (by decide +kernel), Or.inl rfl⟩
theorem cl_Law_8 : Cond.classLink "MatchMillLaw" 8 "MatchMill" ∈ lw_tbl := wI (i := 30) (by decide +kernel)
theorem cl_Mill_9 : Cond.classLink "MatchMill" 9 "MatchMill$Types" ∈ lw_tbl := wI (i := 38) (by decide +kernel)
theorem cl_Mill_12 : Cond.classLink "MatchMill" 12 "MatchMill$Cases" ∈ lw_tbl := wI (i := 58) (by decide +kernel)
theorem cl_Cases_9 : Cond.classLink "MatchMill$Cases" 9 "MatchMill$Term" ∈ lw_tbl := wI (i := 64) (by decide +kernel)
theorem cl_Mill_23 : Cond.classLink "MatchMill" 23 "MatchMill$Pile" ∈ lw_tbl := wI (i := 77) (by decide +kernel)
theorem cl_Pile_9 : Cond.classLink "MatchMill$Pile" 9 "MatchMill$Term" ∈ lw_tbl := wI (i := 83) (by decide +kernel)
theorem cl_Mill_33 : Cond.classLink "MatchMill" 33 "MatchMill$Tree" ∈ lw_tbl := wI (i := 91) (by decide +kernel)
theorem cl_Tree_9 : Cond.classLink "MatchMill$Tree" 9 "MatchMill$Rows" ∈ lw_tbl := wI (i := 97) (by decide +kernel)
theorem cl_Rows_9 : Cond.classLink "MatchMill$Rows" 9 "java/util/ArrayList" ∈ lw_tbl := wI (i := 103) (by decide +kernel)
theorem cl_Tree_18 : Cond.classLink "MatchMill$Tree" 18 "MatchMill$Places" ∈ lw_tbl := wI (i := 136) (by decide +kernel)
theorem cl_Places_9 : Cond.classLink "MatchMill$Places" 9 "java/util/ArrayList" ∈ lw_tbl := wI (i := 142) (by decide +kernel)
theorem cl_Tree_25 : Cond.classLink "MatchMill$Tree" 25 "java/util/ArrayList" ∈ lw_tbl := wI (i := 151) (by decide +kernel)
theorem cl_Mill_42 : Cond.classLink "MatchMill" 42 "MatchMill$Passage" ∈ lw_tbl := wI (i := 196) (by decide +kernel)
theorem cl_Passage_15 : Cond.classLink "MatchMill$Passage" 15 "MatchMill$Term" ∈ lw_tbl := wI (i := 202) (by decide +kernel)
theorem cl_Passage_21 : Cond.classLink "MatchMill$Passage" 21 "java/util/ArrayList" ∈ lw_tbl := wI (i := 203) (by decide +kernel)
theorem cl_Law_13 : Cond.classLink "MatchMillLaw" 13 "java/lang/IllegalArgumentException" ∈ lw_tbl := wI (i := 324) (by decide +kernel)
theorem cl_Law_15 : Cond.classLink "MatchMillLaw" 15 "java/lang/IllegalStateException" ∈ lw_tbl := wI (i := 325) (by decide +kernel)
theorem cl_Mill_53 : Cond.classLink "MatchMill" 53 "java/lang/IllegalArgumentException" ∈ lw_tbl := wI (i := 334) (by decide +kernel)
theorem cl_Mill_63 : Cond.classLink "MatchMill" 63 "java/lang/IllegalStateException" ∈ lw_tbl := wI (i := 402) (by decide +kernel)
theorem cl_Mill_82 : Cond.classLink "MatchMill" 82 "MatchMill$Term" ∈ lw_tbl := wI (i := 449) (by decide +kernel)
theorem cl_Law_46 : Cond.classLink "MatchMillLaw" 46 "java/lang/UnsupportedOperationException" ∈ lw_tbl := wI (i := 608) (by decide +kernel)
theorem cl_Places_30 : Cond.classLink "MatchMill$Places" 30 "MatchMill$Place" ∈ lw_tbl := wI (i := 639) (by decide +kernel)
theorem cl_Arrays_110 : Cond.classLink "java/util/Arrays" 110 "[Ljava/lang/Object;" ∈ lw_tbl := wI (i := 717) (by decide +kernel)
theorem cl_Arrays_2 : Cond.classLink "java/util/Arrays" 2 "java/lang/Object" ∈ lw_tbl := wI (i := 719) (by decide +kernel)
theorem cl_ArrayList_7 : Cond.classLink "java/util/ArrayList" 7 "java/lang/Object" ∈ lw_tbl := wI (i := 725) (by decide +kernel)
theorem cl_Rows_32 : Cond.classLink "MatchMill$Rows" 32 "MatchMill$Row" ∈ lw_tbl := wI (i := 758) (by decide +kernel)
theorem cl_Row_15 : Cond.classLink "MatchMill$Row" 15 "MatchMill$Term" ∈ lw_tbl := wI (i := 764) (by decide +kernel)
theorem cl_Tree_67 : Cond.classLink "MatchMill$Tree" 67 "MatchMill$Question" ∈ lw_tbl := wI (i := 864) (by decide +kernel)
theorem cl_Mill_167 : Cond.classLink "MatchMill" 167 "java/lang/UnsupportedOperationException" ∈ lw_tbl := wI (i := 1001) (by decide +kernel)
theorem cl_Law_65 : Cond.classLink "MatchMillLaw" 65 "MatchMillModel" ∈ lw_tbl := wI (i := 1108) (by decide +kernel)
theorem cn_Integer_265 : Cond.constant "java/lang/Integer" 265 1431655765 ∈ lw_tbl := wI (i := 583) (by decide +kernel)
theorem cn_Integer_266 : Cond.constant "java/lang/Integer" 266 858993459 ∈ lw_tbl := wI (i := 584) (by decide +kernel)
theorem cn_Integer_267 : Cond.constant "java/lang/Integer" 267 252645135 ∈ lw_tbl := wI (i := 585) (by decide +kernel)
theorem cn_ArraysSupport_200 : Cond.constant "jdk/internal/util/ArraysSupport" 200 2147483639 ∈ lw_tbl := wI (i := 686) (by decide +kernel)
theorem cn_Tree_62 : Cond.constant "MatchMill$Tree" 62 1000000 ∈ lw_tbl := wI (i := 965) (by decide +kernel)
theorem cn_Model_77 : Cond.constant "MatchMillModel" 77 70400 ∈ lw_tbl := wI (i := 1114) (by decide +kernel)
theorem cn_Model_90 : Cond.constant "MatchMillModel" 90 41640 ∈ lw_tbl := wI (i := 1115) (by decide +kernel)
theorem cn_Model_97 : Cond.constant "MatchMillModel" 97 1082640 ∈ lw_tbl := wI (i := 1116) (by decide +kernel)
theorem cn_Model_104 : Cond.constant "MatchMillModel" 104 333120 ∈ lw_tbl := wI (i := 1117) (by decide +kernel)
theorem cn_Model_187 : Cond.constant "MatchMillModel" 187 41600 ∈ lw_tbl := wI (i := 1374) (by decide +kernel)
theorem wa_int : Cond.arrayClass FieldType.int ∈ lw_tbl := wI (i := 57) (by decide +kernel)
theorem wa_boolean : Cond.arrayClass FieldType.boolean ∈ lw_tbl := wI (i := 76) (by decide +kernel)
theorem wa_long : Cond.arrayClass FieldType.long ∈ lw_tbl := wI (i := 1475) (by decide +kernel)
theorem wo_Term : Cond.arrayOver (.object "MatchMill$Term") ∈ lw_tbl := wI (i := 65) (by decide +kernel)
theorem wo_Object : Cond.arrayOver (.object "java/lang/Object") ∈ lw_tbl := wI (i := 718) (by decide +kernel)
theorem ca_IAE_IAE : Cond.castable "java/lang/IllegalArgumentException" "java/lang/IllegalArgumentException" ∈ lw_tbl := wI (i := 336) (by decide +kernel)
theorem ca_ISE_ISE : Cond.castable "java/lang/IllegalStateException" "java/lang/IllegalStateException" ∈ lw_tbl := wI (i := 404) (by decide +kernel)
theorem ca_UOE_UOE : Cond.castable "java/lang/UnsupportedOperationException" "java/lang/UnsupportedOperationException" ∈ lw_tbl := wI (i := 1003) (by decide +kernel)
theorem ca_Place_Place : Cond.castable "MatchMill$Place" "MatchMill$Place" ∈ lw_tbl := wI (i := 1477) (by decide +kernel)
theorem ca_Row_Row : Cond.castable "MatchMill$Row" "MatchMill$Row" ∈ lw_tbl := wI (i := 1478) (by decide +kernel)
theorem ca_Question_Question : Cond.castable "MatchMill$Question" "MatchMill$Question" ∈ lw_tbl := wI (i := 1479) (by decide +kernel)
theorem ca_Term_Term : Cond.castable "MatchMill$Term" "MatchMill$Term" ∈ lw_tbl := wI (i := 1480) (by decide +kernel)
theorem ca_Mill_Object : Cond.castable "MatchMill" "java/lang/Object" ∈ lw_tbl := wI (i := 1484) (by decide +kernel)
theorem ca_Types_Object : Cond.castable "MatchMill$Types" "java/lang/Object" ∈ lw_tbl := wI (i := 1485) (by decide +kernel)
theorem ca_Cases_Object : Cond.castable "MatchMill$Cases" "java/lang/Object" ∈ lw_tbl := wI (i := 1486) (by decide +kernel)
theorem ca_Pile_Object : Cond.castable "MatchMill$Pile" "java/lang/Object" ∈ lw_tbl := wI (i := 1487) (by decide +kernel)
theorem ca_Tree_Object : Cond.castable "MatchMill$Tree" "java/lang/Object" ∈ lw_tbl := wI (i := 1488) (by decide +kernel)
theorem ca_Rows_Object : Cond.castable "MatchMill$Rows" "java/lang/Object" ∈ lw_tbl := wI (i := 1489) (by decide +kernel)
theorem ca_Places_Object : Cond.castable "MatchMill$Places" "java/lang/Object" ∈ lw_tbl := wI (i := 1490) (by decide +kernel)
theorem ca_Passage_Object : Cond.castable "MatchMill$Passage" "java/lang/Object" ∈ lw_tbl := wI (i := 1491) (by decide +kernel)
theorem ca_Model_Object : Cond.castable "MatchMillModel" "java/lang/Object" ∈ lw_tbl := wI (i := 1492) (by decide +kernel)
theorem ca_Term_Object : Cond.castable "MatchMill$Term" "java/lang/Object" ∈ lw_tbl := wI (i := 1493) (by decide +kernel)
theorem ca_Place_Object : Cond.castable "MatchMill$Place" "java/lang/Object" ∈ lw_tbl := wI (i := 1494) (by decide +kernel)
theorem ca_Row_Object : Cond.castable "MatchMill$Row" "java/lang/Object" ∈ lw_tbl := wI (i := 1495) (by decide +kernel)
theorem ca_Question_Object : Cond.castable "MatchMill$Question" "java/lang/Object" ∈ lw_tbl := wI (i := 1496) (by decide +kernel)
theorem w_objI : Cond.instanceMethod Lib.objectInit ∈ lw_tbl := wI (i := 36) (by decide +kernel)
theorem w_objC : Cond.code Lib.objectInit ⟨#[0xb1]⟩ 1 none ∈ lw_tbl := wI (i := 37) (by decide +kernel)

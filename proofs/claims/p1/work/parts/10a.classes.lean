/-! NAMES, by program (wip/whole/tools/gen_names.py): classes, methods, and the tables' words that instructions need -/
theorem wI {i : Nat} {w : Cond} (h : tables_1[i]? = some w) : w ∈ lw_tbl := List.mem_append_right _ (List.mem_of_getElem? h)
theorem wP {i : Nat} {w : Cond} (h : (k2_sels lw_privs)[i]? = some w) : w ∈ lw_tbl := List.mem_append_left _ (List.mem_of_getElem? h)
theorem wAll {ws : List Cond} (ps : List Nat) (h : ws = ps.filterMap (fun i => tables_1[i]?)) (hg : ws.all gWarm = true) : ∀ w ∈ ws, w ∈ lw_tbl ∧ gWarm w = true := by
  intro w hw
  have h1 := List.all_eq_true.mp hg w hw
  rw [h] at hw
  obtain ⟨i, -, hi⟩ := List.mem_filterMap.mp hw
  exact ⟨wI hi, h1⟩
def gKV (K : String) (Y : gY) (n : Nat) : Prop := Cond.instanceMethod Y.1 ∈ lw_tbl ∧ Cond.selects K Y.1 Y.1 ∈ lw_tbl ∧ gWord Y ∈ lw_tbl ∧ gWarm (gWord Y) = true ∧ Cond.initialized Y.1.cls ∈ lw_tbl ∧ (Y.1.cls ≠ "java/lang/invoke/MethodHandle" ∧ Y.1.cls ≠ "java/lang/invoke/VarHandle") ∧ (parseMethodDescriptor Y.1.desc).map (fun d => d.parameters.length) = some n ∧ Y.2.2.1 ≤ 41
def gKS (Y : gY) (n : Nat) : Prop := Cond.static Y.1 ∈ lw_tbl ∧ gWord Y ∈ lw_tbl ∧ gWarm (gWord Y) = true ∧ Cond.initialized Y.1.cls ∈ lw_tbl ∧ (Y.1.cls ≠ "java/lang/invoke/MethodHandle" ∧ Y.1.cls ≠ "java/lang/invoke/VarHandle") ∧ (parseMethodDescriptor Y.1.desc).map (fun d => d.parameters.length) = some n ∧ Y.2.2.1 ≤ 41
def gKI (y : MethodName) (cc : ByteArray) (maxL n : Nat) : Prop := y.name = "<init>" ∧ Cond.instanceMethod y ∈ lw_tbl ∧ Cond.code y cc maxL none ∈ lw_tbl ∧ Cond.initialized y.cls ∈ lw_tbl ∧ (y.cls ≠ "java/lang/invoke/MethodHandle" ∧ y.cls ≠ "java/lang/invoke/VarHandle") ∧ (parseMethodDescriptor y.desc).map (fun d => d.parameters.length) = some n ∧ maxL ≤ 41
def gIns (C : String) (N : Nat) : Prop := Cond.instantiable C N ∈ lw_tbl ∧ Cond.initialized C ∈ lw_tbl
def C_ArrayList : String := "java/util/ArrayList"
def T_ArrayList : u_T := fun k => match k with
  | 0 => ("java/util/AbstractList", "modCount", "I", false)
  | 1 => ("java/util/ArrayList", "elementData", "[Ljava/lang/Object;", false)
  | _ => ("java/util/ArrayList", "size", "I", false)
def t_ArrayList : Nat → FieldType := fun k => match k with
  | 0 => .int
  | 1 => .array (.object "java/lang/Object")
  | _ => .int
def C_Cases : String := "MatchMill$Cases"
def T_Cases : u_T := fun k => match k with
  | 0 => ("MatchMill$Cases", "patterns", "[LMatchMill$Term;", true)
  | 1 => ("MatchMill$Cases", "guarded", "[Z", true)
  | _ => ("MatchMill$Cases", "count", "I", false)
def t_Cases : Nat → FieldType := fun k => match k with
  | 0 => .array (.object "MatchMill$Term")
  | 1 => .array .boolean
  | _ => .int
def C_Passage : String := "MatchMill$Passage"
def T_Passage : u_T := fun k => match k with
  | 0 => ("MatchMill$Passage", "questions", "[I", true)
  | 1 => ("MatchMill$Passage", "termOfName", "[LMatchMill$Term;", true)
  | 2 => ("MatchMill$Passage", "met", "Ljava/util/ArrayList;", true)
  | _ => ("MatchMill$Passage", "length", "I", false)
def t_Passage : Nat → FieldType := fun k => match k with
  | 0 => .array .int
  | 1 => .array (.object "MatchMill$Term")
  | 2 => .object "java/util/ArrayList"
  | _ => .int
def C_Pile : String := "MatchMill$Pile"
def T_Pile : u_T := fun k => match k with
  | 0 => ("MatchMill$Pile", "terms", "[LMatchMill$Term;", true)
  | _ => ("MatchMill$Pile", "height", "I", false)
def t_Pile : Nat → FieldType := fun k => match k with
  | 0 => .array (.object "MatchMill$Term")
  | _ => .int
def C_Place : String := "MatchMill$Place"
def T_Place : u_T := fun k => match k with
  | 0 => ("MatchMill$Place", "distance", "I", false)
  | 1 => ("MatchMill$Place", "kind", "I", false)
  | 2 => ("MatchMill$Place", "what", "I", false)
  | 3 => ("MatchMill$Place", "firstPart", "I", false)
  | _ => ("MatchMill$Place", "parts", "I", false)
def t_Place : Nat → FieldType := fun k => match k with
  | 0 => .int
  | 1 => .int
  | 2 => .int
  | 3 => .int
  | _ => .int
def C_Places : String := "MatchMill$Places"
def T_Places : u_T := fun k => match k with
  | 0 => ("MatchMill$Places", "places", "Ljava/util/ArrayList;", true)
  | _ => ("MatchMill$Places", "count", "I", false)
def t_Places : Nat → FieldType := fun k => match k with
  | 0 => .object "java/util/ArrayList"
  | _ => .int
def C_Question : String := "MatchMill$Question"
def T_Question : u_T := fun k => match k with
  | 0 => ("MatchMill$Question", "firstRow", "I", false)
  | 1 => ("MatchMill$Question", "rows", "I", false)
  | 2 => ("MatchMill$Question", "place", "I", false)
  | 3 => ("MatchMill$Question", "distance", "I", false)
  | 4 => ("MatchMill$Question", "places", "I", false)
  | 5 => ("MatchMill$Question", "ofNumbers", "Z", false)
  | 6 => ("MatchMill$Question", "firstNumber", "I", false)
  | 7 => ("MatchMill$Question", "answers", "I", false)
  | 8 => ("MatchMill$Question", "before", "I", false)
  | 9 => ("MatchMill$Question", "up", "I", false)
  | 10 => ("MatchMill$Question", "via", "I", false)
  | _ => ("MatchMill$Question", "followed", "I", false)
def t_Question : Nat → FieldType := fun k => match k with
  | 0 => .int
  | 1 => .int
  | 2 => .int
  | 3 => .int
  | 4 => .int
  | 5 => .boolean
  | 6 => .int
  | 7 => .int
  | 8 => .int
  | 9 => .int
  | 10 => .int
  | _ => .int
def C_Row : String := "MatchMill$Row"
def T_Row : u_T := fun k => match k with
  | 0 => ("MatchMill$Row", "places", "[I", true)
  | 1 => ("MatchMill$Row", "wished", "[LMatchMill$Term;", true)
  | 2 => ("MatchMill$Row", "placeOfName", "[I", true)
  | 3 => ("MatchMill$Row", "owner", "I", false)
  | _ => ("MatchMill$Row", "wishes", "I", false)
def t_Row : Nat → FieldType := fun k => match k with
  | 0 => .array .int
  | 1 => .array (.object "MatchMill$Term")
  | 2 => .array .int
  | 3 => .int
  | _ => .int
def C_Rows : String := "MatchMill$Rows"
def T_Rows : u_T := fun k => match k with
  | 0 => ("MatchMill$Rows", "rows", "Ljava/util/ArrayList;", true)
  | _ => ("MatchMill$Rows", "count", "I", false)
def t_Rows : Nat → FieldType := fun k => match k with
  | 0 => .object "java/util/ArrayList"
  | _ => .int
def C_Term : String := "MatchMill$Term"
def T_Term : u_T := fun k => match k with
  | 0 => ("MatchMill$Term", "type", "I", true)
  | 1 => ("MatchMill$Term", "kind", "I", true)
  | 2 => ("MatchMill$Term", "what", "I", true)
  | 3 => ("MatchMill$Term", "parts", "[LMatchMill$Term;", true)
  | 4 => ("MatchMill$Term", "size", "I", true)
  | 5 => ("MatchMill$Term", "ownNames", "I", false)
  | _ => ("MatchMill$Term", "names", "I", false)
def t_Term : Nat → FieldType := fun k => match k with
  | 0 => .int
  | 1 => .int
  | 2 => .int
  | 3 => .array (.object "MatchMill$Term")
  | 4 => .int
  | 5 => .int
  | _ => .int
def C_Tree : String := "MatchMill$Tree"
def T_Tree : u_T := fun k => match k with
  | 0 => ("MatchMill$Tree", "types", "LMatchMill$Types;", true)
  | 1 => ("MatchMill$Tree", "cases", "LMatchMill$Cases;", true)
  | 2 => ("MatchMill$Tree", "rows", "LMatchMill$Rows;", true)
  | 3 => ("MatchMill$Tree", "places", "LMatchMill$Places;", true)
  | 4 => ("MatchMill$Tree", "questions", "Ljava/util/ArrayList;", true)
  | 5 => ("MatchMill$Tree", "numbers", "[I", true)
  | 6 => ("MatchMill$Tree", "missing", "[I", true)
  | 7 => ("MatchMill$Tree", "count", "I", false)
  | 8 => ("MatchMill$Tree", "numbersKept", "I", false)
  | 9 => ("MatchMill$Tree", "missingLength", "I", false)
  | 10 => ("MatchMill$Tree", "takenCases", "I", false)
  | 11 => ("MatchMill$Tree", "takes", "I", false)
  | 12 => ("MatchMill$Tree", "fails", "I", false)
  | _ => ("MatchMill$Tree", "longest", "I", false)
def t_Tree : Nat → FieldType := fun k => match k with
  | 0 => .object "MatchMill$Types"
  | 1 => .object "MatchMill$Cases"
  | 2 => .object "MatchMill$Rows"
  | 3 => .object "MatchMill$Places"
  | 4 => .object "java/util/ArrayList"
  | 5 => .array .int
  | 6 => .array .int
  | 7 => .int
  | 8 => .int
  | 9 => .int
  | 10 => .int
  | 11 => .int
  | 12 => .int
  | _ => .int
def C_Types : String := "MatchMill$Types"
def T_Types : u_T := fun k => match k with
  | 0 => ("MatchMill$Types", "constructors", "[I", true)
  | 1 => ("MatchMill$Types", "arities", "[I", true)
  | _ => ("MatchMill$Types", "arguments", "[I", true)
def t_Types : Nat → FieldType := fun k => match k with
  | 0 => .array .int
  | 1 => .array .int
  | _ => .array .int
def C_Mill : String := "MatchMill"
def T_Mill : u_T := fun k => match k with
  | 0 => ("MatchMill", "types", "LMatchMill$Types;", true)
  | 1 => ("MatchMill", "patterns", "LMatchMill$Pile;", true)
  | 2 => ("MatchMill", "values", "LMatchMill$Pile;", true)
  | 3 => ("MatchMill", "cases", "LMatchMill$Cases;", true)
  | 4 => ("MatchMill", "tree", "LMatchMill$Tree;", true)
  | 5 => ("MatchMill", "latest", "LMatchMill$Passage;", true)
  | 6 => ("MatchMill", "anyMade", "Z", false)
  | 7 => ("MatchMill", "built", "Z", false)
  | _ => ("MatchMill", "tooGreat", "Z", false)
def t_Mill : Nat → FieldType := fun k => match k with
  | 0 => .object "MatchMill$Types"
  | 1 => .object "MatchMill$Pile"
  | 2 => .object "MatchMill$Pile"
  | 3 => .object "MatchMill$Cases"
  | 4 => .object "MatchMill$Tree"
  | 5 => .object "MatchMill$Passage"
  | 6 => .boolean
  | 7 => .boolean
  | _ => .boolean
def C_Model : String := "MatchMillModel"
def T_Model : u_T := fun k => match k with
  | 0 => ("MatchMillModel", "code", "I", false)
  | 1 => ("MatchMillModel", "types", "[I", true)
  | 2 => ("MatchMillModel", "arguments", "[I", true)
  | 3 => ("MatchMillModel", "argumentTypes", "[I", true)
  | 4 => ("MatchMillModel", "begun", "Z", false)
  | 5 => ("MatchMillModel", "nodes", "I", false)
  | 6 => ("MatchMillModel", "kinds", "[I", true)
  | 7 => ("MatchMillModel", "nodeTypes", "[I", true)
  | 8 => ("MatchMillModel", "whats", "[I", true)
  | 9 => ("MatchMillModel", "parts", "[I", true)
  | 10 => ("MatchMillModel", "sizes", "[I", true)
  | 11 => ("MatchMillModel", "names", "[I", true)
  | 12 => ("MatchMillModel", "patterns", "[I", true)
  | 13 => ("MatchMillModel", "values", "[I", true)
  | 14 => ("MatchMillModel", "patternCount", "I", false)
  | 15 => ("MatchMillModel", "valueCount", "I", false)
  | 16 => ("MatchMillModel", "cases", "I", false)
  | 17 => ("MatchMillModel", "casePatterns", "[I", true)
  | 18 => ("MatchMillModel", "guarded", "[Z", true)
  | 19 => ("MatchMillModel", "built", "Z", false)
  | 20 => ("MatchMillModel", "questions", "I", false)
  | 21 => ("MatchMillModel", "takes", "I", false)
  | 22 => ("MatchMillModel", "fails", "I", false)
  | 23 => ("MatchMillModel", "longest", "I", false)
  | 24 => ("MatchMillModel", "used", "I", false)
  | 25 => ("MatchMillModel", "missingCount", "I", false)
  | 26 => ("MatchMillModel", "rowsAsked", "I", false)
  | 27 => ("MatchMillModel", "missing", "[I", true)
  | 28 => ("MatchMillModel", "questionRows", "[I", true)
  | 29 => ("MatchMillModel", "questionAnswers", "[I", true)
  | 30 => ("MatchMillModel", "questionBefore", "[I", true)
  | 31 => ("MatchMillModel", "questionDepth", "[I", true)
  | 32 => ("MatchMillModel", "questionParent", "[I", true)
  | 33 => ("MatchMillModel", "questionBy", "[I", true)
  | 34 => ("MatchMillModel", "places", "I", false)
  | 35 => ("MatchMillModel", "placeDepth", "[I", true)
  | 36 => ("MatchMillModel", "placeType", "[I", true)
  | 37 => ("MatchMillModel", "inner", "[I", true)
  | 38 => ("MatchMillModel", "answered", "[I", true)
  | 39 => ("MatchMillModel", "answeredNumber", "[I", true)
  | 40 => ("MatchMillModel", "valueAt", "[I", true)
  | 41 => ("MatchMillModel", "rowCase", "[I", true)
  | 42 => ("MatchMillModel", "rowMany", "[I", true)
  | 43 => ("MatchMillModel", "wishPlace", "[I", true)
  | 44 => ("MatchMillModel", "wishPattern", "[I", true)
  | 45 => ("MatchMillModel", "binds", "[I", true)
  | 46 => ("MatchMillModel", "rows", "I", false)
  | 47 => ("MatchMillModel", "tooMuch", "Z", false)
  | 48 => ("MatchMillModel", "stepFirst", "[I", true)
  | 49 => ("MatchMillModel", "stepRows", "[I", true)
  | 50 => ("MatchMillModel", "stepQuestion", "[I", true)
  | 51 => ("MatchMillModel", "stepAnswer", "[I", true)
  | 52 => ("MatchMillModel", "stepPlace", "[I", true)
  | 53 => ("MatchMillModel", "stack", "[I", true)
  | 54 => ("MatchMillModel", "askedCount", "I", false)
  | 55 => ("MatchMillModel", "askedQuestions", "[I", true)
  | 56 => ("MatchMillModel", "bound", "[I", true)
  | 57 => ("MatchMillModel", "told", "[I", true)
  | 58 => ("MatchMillModel", "toldCount", "I", false)
  | _ => ("MatchMillModel", "boundFor", "I", false)
def t_Model : Nat → FieldType := fun k => match k with
  | 0 => .int
  | 1 => .array .int
  | 2 => .array .int
  | 3 => .array .int
  | 4 => .boolean
  | 5 => .int
  | 6 => .array .int
  | 7 => .array .int
  | 8 => .array .int
  | 9 => .array .int
  | 10 => .array .int
  | 11 => .array .int
  | 12 => .array .int
  | 13 => .array .int
  | 14 => .int
  | 15 => .int
  | 16 => .int
  | 17 => .array .int
  | 18 => .array .boolean
  | 19 => .boolean
  | 20 => .int
  | 21 => .int
  | 22 => .int
  | 23 => .int
  | 24 => .int
  | 25 => .int
  | 26 => .int
  | 27 => .array .int
  | 28 => .array .int
  | 29 => .array .int
  | 30 => .array .int
  | 31 => .array .int
  | 32 => .array .int
  | 33 => .array .int
  | 34 => .int
  | 35 => .array .int
  | 36 => .array .int
  | 37 => .array .int
  | 38 => .array .int
  | 39 => .array .int
  | 40 => .array .int
  | 41 => .array .int
  | 42 => .array .int
  | 43 => .array .int
  | 44 => .array .int
  | 45 => .array .int
  | 46 => .int
  | 47 => .boolean
  | 48 => .array .int
  | 49 => .array .int
  | 50 => .array .int
  | 51 => .array .int
  | 52 => .array .int
  | 53 => .array .int
  | 54 => .int
  | 55 => .array .int
  | 56 => .array .int
  | 57 => .array .int
  | 58 => .int
  | _ => .int
def gCl : List vw_C := [(C_ArrayList, T_ArrayList, 3), (C_Cases, T_Cases, 3), (C_Passage, T_Passage, 4), (C_Pile, T_Pile, 2), (C_Place, T_Place, 5), (C_Places, T_Places, 2), (C_Question, T_Question, 12), (C_Row, T_Row, 5), (C_Rows, T_Rows, 2), (C_Term, T_Term, 7), (C_Tree, T_Tree, 14), (C_Types, T_Types, 3), (C_Mill, T_Mill, 9), (C_Model, T_Model, 60)]
set_option maxRecDepth 100000 in
theorem kc_ArrayList : gCls gCl 0 C_ArrayList T_ArrayList 3 t_ArrayList := ⟨rfl, wAll [126, 122, 124] (by decide +kernel) (by decide +kernel), by decide +kernel, by decide +kernel⟩
set_option maxRecDepth 100000 in
theorem kc_Cases : gCls gCl 1 C_Cases T_Cases 3 t_Cases := ⟨rfl, wAll [69, 71, 73] (by decide +kernel) (by decide +kernel), by decide +kernel, by decide +kernel⟩
set_option maxRecDepth 100000 in
theorem kc_Passage : gCls gCl 2 C_Passage T_Passage 4 t_Passage := ⟨rfl, wAll [209, 211, 213, 215] (by decide +kernel) (by decide +kernel), by decide +kernel, by decide +kernel⟩
set_option maxRecDepth 100000 in
theorem kc_Pile : gCls gCl 3 C_Pile T_Pile 2 t_Pile := ⟨rfl, wAll [86, 88] (by decide +kernel) (by decide +kernel), by decide +kernel, by decide +kernel⟩
set_option maxRecDepth 100000 in
theorem kc_Place : gCls gCl 4 C_Place T_Place 5 t_Place := ⟨rfl, wAll [655, 657, 659, 661, 663] (by decide +kernel) (by decide +kernel), by decide +kernel, by decide +kernel⟩
set_option maxRecDepth 100000 in
theorem kc_Places : gCls gCl 5 C_Places T_Places 2 t_Places := ⟨rfl, wAll [146, 148] (by decide +kernel) (by decide +kernel), by decide +kernel, by decide +kernel⟩
set_option maxRecDepth 100000 in
theorem kc_Question : gCls gCl 6 C_Question T_Question 12 t_Question := ⟨rfl, wAll [889, 891, 893, 895, 897, 899, 901, 903, 905, 907, 909, 911] (by decide +kernel) (by decide +kernel), by decide +kernel, by decide +kernel⟩
set_option maxRecDepth 100000 in
theorem kc_Row : gCls gCl 7 C_Row T_Row 5 t_Row := ⟨rfl, wAll [776, 778, 780, 782, 784] (by decide +kernel) (by decide +kernel), by decide +kernel, by decide +kernel⟩
set_option maxRecDepth 100000 in
theorem kc_Rows : gCls gCl 8 C_Rows T_Rows 2 t_Rows := ⟨rfl, wAll [131, 133] (by decide +kernel) (by decide +kernel), by decide +kernel, by decide +kernel⟩
set_option maxRecDepth 100000 in
theorem kc_Term : gCls gCl 9 C_Term T_Term 7 t_Term := ⟨rfl, wAll [479, 481, 483, 485, 487, 489, 491] (by decide +kernel) (by decide +kernel), by decide +kernel, by decide +kernel⟩
set_option maxRecDepth 100000 in
theorem kc_Tree : gCls gCl 10 C_Tree T_Tree 14 t_Tree := ⟨rfl, wAll [167, 169, 171, 173, 175, 177, 179, 181, 183, 185, 187, 189, 191, 193] (by decide +kernel) (by decide +kernel), by decide +kernel, by decide +kernel⟩
set_option maxRecDepth 100000 in
theorem kc_Types : gCls gCl 11 C_Types T_Types 3 t_Types := ⟨rfl, wAll [50, 52, 54] (by decide +kernel) (by decide +kernel), by decide +kernel, by decide +kernel⟩
set_option maxRecDepth 100000 in
theorem kc_Mill : gCls gCl 12 C_Mill T_Mill 9 t_Mill := ⟨rfl, wAll [227, 229, 231, 233, 235, 237, 239, 241, 243] (by decide +kernel) (by decide +kernel), by decide +kernel, by decide +kernel⟩
set_option maxRecDepth 100000 in
theorem kc_Model : gCls gCl 13 C_Model T_Model 60 t_Model := ⟨rfl, wAll [1181, 1183, 1185, 1187, 1189, 1191, 1193, 1195, 1197, 1199, 1201, 1203, 1205, 1207, 1209, 1211, 1213, 1215, 1217, 1219, 1221, 1223, 1225, 1227, 1229, 1231, 1233, 1235, 1237, 1239, 1241, 1243, 1245, 1247, 1249, 1251, 1253, 1255, 1257, 1259, 1261, 1263, 1265, 1267, 1269, 1271, 1273, 1275, 1277, 1279, 1281, 1283, 1285, 1287, 1289, 1291, 1293, 1295, 1297, 1299] (by decide +kernel) (by decide +kernel), by decide +kernel, by decide +kernel⟩
theorem ki_ArrayList : gIns C_ArrayList 3 := ⟨wI (i := 104) (by decide +kernel), wI (i := 10) (by decide +kernel)⟩
theorem ki_Cases : gIns C_Cases 3 := ⟨wI (i := 59) (by decide +kernel), wI (i := 4) (by decide +kernel)⟩
theorem ki_Passage : gIns C_Passage 4 := ⟨wI (i := 197) (by decide +kernel), wI (i := 12) (by decide +kernel)⟩
theorem ki_Pile : gIns C_Pile 2 := ⟨wI (i := 78) (by decide +kernel), wI (i := 5) (by decide +kernel)⟩
theorem ki_Place : gIns C_Place 5 := ⟨wI (i := 640) (by decide +kernel), wI (i := 22) (by decide +kernel)⟩
theorem ki_Places : gIns C_Places 2 := ⟨wI (i := 137) (by decide +kernel), wI (i := 11) (by decide +kernel)⟩
theorem ki_Question : gIns C_Question 12 := ⟨wI (i := 865) (by decide +kernel), wI (i := 28) (by decide +kernel)⟩
theorem ki_Row : gIns C_Row 5 := ⟨wI (i := 759) (by decide +kernel), wI (i := 27) (by decide +kernel)⟩
theorem ki_Rows : gIns C_Rows 2 := ⟨wI (i := 98) (by decide +kernel), wI (i := 7) (by decide +kernel)⟩
theorem ki_Term : gIns C_Term 7 := ⟨wI (i := 450) (by decide +kernel), wI (i := 19) (by decide +kernel)⟩
theorem ki_Tree : gIns C_Tree 14 := ⟨wI (i := 92) (by decide +kernel), wI (i := 6) (by decide +kernel)⟩
theorem ki_Types : gIns C_Types 3 := ⟨wI (i := 39) (by decide +kernel), wI (i := 2) (by decide +kernel)⟩
theorem ki_Mill : gIns C_Mill 9 := ⟨wI (i := 31) (by decide +kernel), wI (i := 1) (by decide +kernel)⟩
theorem ki_Model : gIns C_Model 60 := ⟨wI (i := 1109) (by decide +kernel), wI (i := 13) (by decide +kernel)⟩

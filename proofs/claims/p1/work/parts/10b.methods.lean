def y_Mill_init : MethodName := ⟨"MatchMill", "<init>", "()V"⟩
def Y_Mill_init : gY := (y_Mill_init, prog_1_method_1_code, 3, none, [])
def y_Object_init : MethodName := ⟨"java/lang/Object", "<init>", "()V"⟩
def Y_Object_init : gY := (y_Object_init, object_method_1_code, 1, none, [])
def y_Types_init : MethodName := ⟨"MatchMill$Types", "<init>", "()V"⟩
def Y_Types_init : gY := (y_Types_init, prog_12_method_1_code, 1, none, [])
def y_Arrays_fill : MethodName := ⟨"java/util/Arrays", "fill", "([II)V"⟩
def Y_Arrays_fill : gY := (y_Arrays_fill, prog_30_method_103_code, 4, none, [])
def y_Cases_init : MethodName := ⟨"MatchMill$Cases", "<init>", "()V"⟩
def Y_Cases_init : gY := (y_Cases_init, prog_2_method_1_code, 1, none, [])
def y_Pile_init : MethodName := ⟨"MatchMill$Pile", "<init>", "()V"⟩
def Y_Pile_init : gY := (y_Pile_init, prog_4_method_1_code, 1, none, [])
def y_Tree_init : MethodName := ⟨"MatchMill$Tree", "<init>", "(LMatchMill$Types;LMatchMill$Cases;)V"⟩
def Y_Tree_init : gY := (y_Tree_init, prog_11_method_1_code, 3, none, [])
def y_Rows_init : MethodName := ⟨"MatchMill$Rows", "<init>", "()V"⟩
def Y_Rows_init : gY := (y_Rows_init, prog_9_method_1_code, 1, none, [])
def y_ArrayList_init : MethodName := ⟨"java/util/ArrayList", "<init>", "()V"⟩
def Y_ArrayList_init : gY := (y_ArrayList_init, prog_29_method_2_code, 1, none, [])
def y_AbstractList_init : MethodName := ⟨"java/util/AbstractList", "<init>", "()V"⟩
def Y_AbstractList_init : gY := (y_AbstractList_init, prog_28_method_1_code, 1, none, [])
def y_AbstractCollection_init : MethodName := ⟨"java/util/AbstractCollection", "<init>", "()V"⟩
def Y_AbstractCollection_init : gY := (y_AbstractCollection_init, prog_27_method_1_code, 1, none, [])
def y_Places_init : MethodName := ⟨"MatchMill$Places", "<init>", "()V"⟩
def Y_Places_init : gY := (y_Places_init, prog_6_method_1_code, 1, none, [])
def y_Passage_init : MethodName := ⟨"MatchMill$Passage", "<init>", "()V"⟩
def Y_Passage_init : gY := (y_Passage_init, prog_3_method_1_code, 1, none, [])
def y_Mill_pop : MethodName := ⟨"MatchMill", "pop", "(Z)I"⟩
def Y_Mill_pop : gY := (y_Mill_pop, prog_1_method_9_code, 4, some FieldType.int, [])
def y_Mill_pileOf : MethodName := ⟨"MatchMill", "pileOf", "(Z)LMatchMill$Pile;"⟩
def Y_Mill_pileOf : gY := (y_Mill_pileOf, prog_1_method_23_code, 2, some (FieldType.object "MatchMill$Pile"), [])
def y_Pile_fromTop : MethodName := ⟨"MatchMill$Pile", "fromTop", "(I)LMatchMill$Term;"⟩
def Y_Pile_fromTop : gY := (y_Pile_fromTop, prog_4_method_4_code, 2, some (FieldType.object "MatchMill$Term"), [])
def y_Pile_drop : MethodName := ⟨"MatchMill$Pile", "drop", "(I)V"⟩
def Y_Pile_drop : gY := (y_Pile_drop, prog_4_method_7_code, 2, none, [])
def y_Math_max : MethodName := ⟨"java/lang/Math", "max", "(II)I"⟩
def Y_Math_max : gY := (y_Math_max, prog_22_method_65_code, 2, some FieldType.int, [])
def y_Mill_asked : MethodName := ⟨"MatchMill", "asked", "(I)I"⟩
def Y_Mill_asked : gY := (y_Mill_asked, prog_1_method_13_code, 2, some FieldType.int, [])
def y_Passage_questionAt : MethodName := ⟨"MatchMill$Passage", "questionAt", "(I)I"⟩
def Y_Passage_questionAt : gY := (y_Passage_questionAt, prog_3_method_6_code, 2, some FieldType.int, [])
def y_Mill_missing : MethodName := ⟨"MatchMill", "missing", "(I)I"⟩
def Y_Mill_missing : gY := (y_Mill_missing, prog_1_method_16_code, 2, some FieldType.int, [])
def y_Tree_missingAt : MethodName := ⟨"MatchMill$Tree", "missingAt", "(I)I"⟩
def Y_Tree_missingAt : gY := (y_Tree_missingAt, prog_11_method_18_code, 2, some FieldType.int, [])
def y_Mill_unused : MethodName := ⟨"MatchMill", "unused", "(I)I"⟩
def Y_Mill_unused : gY := (y_Mill_unused, prog_1_method_17_code, 2, some FieldType.int, [])
def y_Tree_unusedAt : MethodName := ⟨"MatchMill$Tree", "unusedAt", "(I)I"⟩
def Y_Tree_unusedAt : gY := (y_Tree_unusedAt, prog_11_method_19_code, 4, some FieldType.int, [])
def y_Cases_size : MethodName := ⟨"MatchMill$Cases", "size", "()I"⟩
def Y_Cases_size : gY := (y_Cases_size, prog_2_method_2_code, 1, some FieldType.int, [])
def y_Mill_clear : MethodName := ⟨"MatchMill", "clear", "()V"⟩
def Y_Mill_clear : gY := (y_Mill_clear, prog_1_method_20_code, 1, none, [])
def y_Types_forget : MethodName := ⟨"MatchMill$Types", "forget", "()V"⟩
def Y_Types_forget : gY := (y_Types_forget, prog_12_method_2_code, 1, none, [])
def y_Pile_height : MethodName := ⟨"MatchMill$Pile", "height", "()I"⟩
def Y_Pile_height : gY := (y_Pile_height, prog_4_method_2_code, 1, some FieldType.int, [])
def y_Cases_forget : MethodName := ⟨"MatchMill$Cases", "forget", "()V"⟩
def Y_Cases_forget : gY := (y_Cases_forget, prog_2_method_3_code, 1, none, [])
def y_Passage_forget : MethodName := ⟨"MatchMill$Passage", "forget", "()V"⟩
def Y_Passage_forget : gY := (y_Passage_forget, prog_3_method_2_code, 2, none, [])
def y_ArrayList_clear : MethodName := ⟨"java/util/ArrayList", "clear", "()V"⟩
def Y_ArrayList_clear : gY := (y_ArrayList_clear, prog_29_method_40_code, 4, none, [])
def y_Mill_forgetTree : MethodName := ⟨"MatchMill", "forgetTree", "()V"⟩
def Y_Mill_forgetTree : gY := (y_Mill_forgetTree, prog_1_method_21_code, 1, none, [])
def y_Mill_type : MethodName := ⟨"MatchMill", "type", "(II)V"⟩
def Y_Mill_type : gY := (y_Mill_type, prog_1_method_2_code, 3, none, [])
def y_Types_canBe : MethodName := ⟨"MatchMill$Types", "canBe", "(I)Z"⟩
def Y_Types_canBe : gY := (y_Types_canBe, prog_12_method_3_code, 2, some FieldType.boolean, [])
def y_Throwable_init : MethodName := ⟨"java/lang/Throwable", "<init>", "()V"⟩
def Y_Throwable_init : gY := (y_Throwable_init, prog_25_method_1_code, 1, none, [])
def y_IAE_init : MethodName := ⟨"java/lang/IllegalArgumentException", "<init>", "()V"⟩
def Y_IAE_init : gY := (y_IAE_init, prog_18_method_1_code, 1, none, [])
def y_RuntimeException_init : MethodName := ⟨"java/lang/RuntimeException", "<init>", "()V"⟩
def Y_RuntimeException_init : gY := (y_RuntimeException_init, prog_23_method_1_code, 1, none, [])
def y_Exception_init : MethodName := ⟨"java/lang/Exception", "<init>", "()V"⟩
def Y_Exception_init : gY := (y_Exception_init, prog_17_method_1_code, 1, none, [])
def y_Types_isTold : MethodName := ⟨"MatchMill$Types", "isTold", "(I)Z"⟩
def Y_Types_isTold : gY := (y_Types_isTold, prog_12_method_4_code, 2, some FieldType.boolean, [])
def y_ISE_init : MethodName := ⟨"java/lang/IllegalStateException", "<init>", "()V"⟩
def Y_ISE_init : gY := (y_ISE_init, prog_19_method_1_code, 1, none, [])
def y_Types_tell : MethodName := ⟨"MatchMill$Types", "tell", "(II)V"⟩
def Y_Types_tell : gY := (y_Types_tell, prog_12_method_7_code, 3, none, [])
def y_Mill_argument : MethodName := ⟨"MatchMill", "argument", "(III)I"⟩
def Y_Mill_argument : gY := (y_Mill_argument, prog_1_method_3_code, 4, some FieldType.int, [])
def y_Types_hasConstructor : MethodName := ⟨"MatchMill$Types", "hasConstructor", "(II)Z"⟩
def Y_Types_hasConstructor : gY := (y_Types_hasConstructor, prog_12_method_6_code, 3, some FieldType.boolean, [])
def y_Types_arity : MethodName := ⟨"MatchMill$Types", "arity", "(II)I"⟩
def Y_Types_arity : gY := (y_Types_arity, prog_12_method_9_code, 3, some FieldType.int, [])
def y_Types_addArgument : MethodName := ⟨"MatchMill$Types", "addArgument", "(III)I"⟩
def Y_Types_addArgument : gY := (y_Types_addArgument, prog_12_method_10_code, 5, some FieldType.int, [])
def y_Mill_any : MethodName := ⟨"MatchMill", "any", "(I)I"⟩
def Y_Mill_any : gY := (y_Mill_any, prog_1_method_4_code, 2, some FieldType.int, [])
def y_Term_init : MethodName := ⟨"MatchMill$Term", "<init>", "(III[LMatchMill$Term;)V"⟩
def Y_Term_init : gY := (y_Term_init, prog_10_method_1_code, 7, none, [])
def y_Mill_put : MethodName := ⟨"MatchMill", "put", "(LMatchMill$Pile;LMatchMill$Term;)I"⟩
def Y_Mill_put : gY := (y_Mill_put, prog_1_method_24_code, 3, some FieldType.int, [])
def y_Pile_isFull : MethodName := ⟨"MatchMill$Pile", "isFull", "()Z"⟩
def Y_Pile_isFull : gY := (y_Pile_isFull, prog_4_method_3_code, 1, some FieldType.boolean, [])
def y_Pile_lay : MethodName := ⟨"MatchMill$Pile", "lay", "(LMatchMill$Term;)I"⟩
def Y_Pile_lay : gY := (y_Pile_lay, prog_4_method_6_code, 2, some FieldType.int, [])
def y_Mill_number : MethodName := ⟨"MatchMill", "number", "(IIZ)I"⟩
def Y_Mill_number : gY := (y_Mill_number, prog_1_method_5_code, 4, some FieldType.int, [])
def y_Types_isOfNumbers : MethodName := ⟨"MatchMill$Types", "isOfNumbers", "(I)Z"⟩
def Y_Types_isOfNumbers : gY := (y_Types_isOfNumbers, prog_12_method_5_code, 2, some FieldType.boolean, [])
def y_Mill_make : MethodName := ⟨"MatchMill", "make", "(IIZ)I"⟩
def Y_Mill_make : gY := (y_Mill_make, prog_1_method_6_code, 7, some FieldType.int, [])
def y_Types_areArguments : MethodName := ⟨"MatchMill$Types", "areArguments", "(IILMatchMill$Pile;)Z"⟩
def Y_Types_areArguments : gY := (y_Types_areArguments, prog_12_method_11_code, 7, some FieldType.boolean, [])
def y_Pile_typeAt : MethodName := ⟨"MatchMill$Pile", "typeAt", "(I)I"⟩
def Y_Pile_typeAt : gY := (y_Pile_typeAt, prog_4_method_5_code, 3, some FieldType.int, [])
def y_Pile_shareNames : MethodName := ⟨"MatchMill$Pile", "shareNames", "(I)Z"⟩
def Y_Pile_shareNames : gY := (y_Pile_shareNames, prog_4_method_10_code, 4, some FieldType.boolean, [])
def y_Pile_sizeOf : MethodName := ⟨"MatchMill$Pile", "sizeOf", "(I)I"⟩
def Y_Pile_sizeOf : gY := (y_Pile_sizeOf, prog_4_method_9_code, 4, some FieldType.int, [])
def y_Pile_take : MethodName := ⟨"MatchMill$Pile", "take", "(I)[LMatchMill$Term;"⟩
def Y_Pile_take : gY := (y_Pile_take, prog_4_method_8_code, 5, some (FieldType.array (FieldType.object "MatchMill$Term")), [])
def y_Math_min : MethodName := ⟨"java/lang/Math", "min", "(II)I"⟩
def Y_Math_min : gY := (y_Math_min, prog_22_method_69_code, 2, some FieldType.int, [])
def y_Mill_either : MethodName := ⟨"MatchMill", "either", "()I"⟩
def Y_Mill_either : gY := (y_Mill_either, prog_1_method_7_code, 2, some FieldType.int, [])
def y_Pile_areAlike : MethodName := ⟨"MatchMill$Pile", "areAlike", "(I)Z"⟩
def Y_Pile_areAlike : gY := (y_Pile_areAlike, prog_4_method_11_code, 3, some FieldType.boolean, [])
def y_Mill_name : MethodName := ⟨"MatchMill", "name", "(I)I"⟩
def Y_Mill_name : gY := (y_Mill_name, prog_1_method_8_code, 3, some FieldType.int, [])
def y_Mill_isName : MethodName := ⟨"MatchMill", "isName", "(I)Z"⟩
def Y_Mill_isName : gY := (y_Mill_isName, prog_1_method_22_code, 1, some FieldType.boolean, [])
def y_Term_hasName : MethodName := ⟨"MatchMill$Term", "hasName", "(I)Z"⟩
def Y_Term_hasName : gY := (y_Term_hasName, prog_10_method_2_code, 2, some FieldType.boolean, [])
def y_Term_addName : MethodName := ⟨"MatchMill$Term", "addName", "(I)I"⟩
def Y_Term_addName : gY := (y_Term_addName, prog_10_method_3_code, 2, some FieldType.int, [])
def y_Integer_bitCount : MethodName := ⟨"java/lang/Integer", "bitCount", "(I)I"⟩
def Y_Integer_bitCount : gY := (y_Integer_bitCount, prog_20_method_49_code, 1, some FieldType.int, [])
def y_Mill_addCase : MethodName := ⟨"MatchMill", "addCase", "(Z)I"⟩
def Y_Mill_addCase : gY := (y_Mill_addCase, prog_1_method_10_code, 3, some FieldType.int, [])
def y_Cases_accepts : MethodName := ⟨"MatchMill$Cases", "accepts", "(LMatchMill$Term;)Z"⟩
def Y_Cases_accepts : gY := (y_Cases_accepts, prog_2_method_5_code, 2, some FieldType.boolean, [])
def y_Cases_areOf : MethodName := ⟨"MatchMill$Cases", "areOf", "(I)Z"⟩
def Y_Cases_areOf : gY := (y_Cases_areOf, prog_2_method_4_code, 2, some FieldType.boolean, [])
def y_Cases_add : MethodName := ⟨"MatchMill$Cases", "add", "(LMatchMill$Term;Z)I"⟩
def Y_Cases_add : gY := (y_Cases_add, prog_2_method_6_code, 3, some FieldType.int, [])
def y_Mill_build : MethodName := ⟨"MatchMill", "build", "()I"⟩
def Y_Mill_build : gY := (y_Mill_build, prog_1_method_11_code, 1, some FieldType.int, [])
def y_Tree_grow : MethodName := ⟨"MatchMill$Tree", "grow", "()Z"⟩
def Y_Tree_grow : gY := (y_Tree_grow, prog_11_method_3_code, 5, some FieldType.boolean, [])
def y_Tree_begin : MethodName := ⟨"MatchMill$Tree", "begin", "()V"⟩
def Y_Tree_begin : gY := (y_Tree_begin, prog_11_method_4_code, 1, none, [])
def y_Rows_cutTo : MethodName := ⟨"MatchMill$Rows", "cutTo", "(I)V"⟩
def Y_Rows_cutTo : gY := (y_Rows_cutTo, prog_9_method_3_code, 2, none, [])
def y_Places_begin : MethodName := ⟨"MatchMill$Places", "begin", "()V"⟩
def Y_Places_begin : gY := (y_Places_begin, prog_6_method_2_code, 1, none, [])
def y_Places_add : MethodName := ⟨"MatchMill$Places", "add", "(I)V"⟩
def Y_Places_add : gY := (y_Places_add, prog_6_method_7_code, 2, none, [])
def y_ArrayList_size : MethodName := ⟨"java/util/ArrayList", "size", "()I"⟩
def Y_ArrayList_size : gY := (y_ArrayList_size, prog_29_method_8_code, 1, some FieldType.int, [])
def y_Place_init : MethodName := ⟨"MatchMill$Place", "<init>", "()V"⟩
def Y_Place_init : gY := (y_Place_init, prog_5_method_1_code, 1, none, [])
def y_ArrayList_add : MethodName := ⟨"java/util/ArrayList", "add", "(Ljava/lang/Object;)Z"⟩
def Y_ArrayList_add : gY := (y_ArrayList_add, prog_29_method_25_code, 2, some FieldType.boolean, [])
def y_ArrayList_add2 : MethodName := ⟨"java/util/ArrayList", "add", "(Ljava/lang/Object;[Ljava/lang/Object;I)V"⟩
def Y_ArrayList_add2 : gY := (y_ArrayList_add2, prog_29_method_24_code, 4, none, [])
def y_ArrayList_grow : MethodName := ⟨"java/util/ArrayList", "grow", "()[Ljava/lang/Object;"⟩
def Y_ArrayList_grow : gY := (y_ArrayList_grow, prog_29_method_7_code, 1, some (FieldType.array (FieldType.object "java/lang/Object")), [])
def y_ArrayList_grow2 : MethodName := ⟨"java/util/ArrayList", "grow", "(I)[Ljava/lang/Object;"⟩
def Y_ArrayList_grow2 : gY := (y_ArrayList_grow2, prog_29_method_6_code, 4, some (FieldType.array (FieldType.object "java/lang/Object")), [])
def y_ArraysSupport_newLength : MethodName := ⟨"jdk/internal/util/ArraysSupport", "newLength", "(III)I"⟩
def Y_ArraysSupport_newLength : gY := (y_ArraysSupport_newLength, prog_36_method_27_code, 4, some FieldType.int, [])
def y_ArraysSupport_hugeLength : MethodName := ⟨"jdk/internal/util/ArraysSupport", "hugeLength", "(II)I"⟩
def Y_ArraysSupport_hugeLength : gY := (y_ArraysSupport_hugeLength, prog_36_method_28_code, 3, some FieldType.int, [])
def y_Arrays_copyOf : MethodName := ⟨"java/util/Arrays", "copyOf", "([Ljava/lang/Object;I)[Ljava/lang/Object;"⟩
def Y_Arrays_copyOf : gY := (y_Arrays_copyOf, prog_30_method_119_code, 2, some (FieldType.array (FieldType.object "java/lang/Object")), [])
def y_Arrays_copyOf2 : MethodName := ⟨"java/util/Arrays", "copyOf", "([Ljava/lang/Object;ILjava/lang/Class;)[Ljava/lang/Object;"⟩
def Y_Arrays_copyOf2 : gY := (y_Arrays_copyOf2, prog_30_method_120_code, 4, some (FieldType.array (FieldType.object "java/lang/Object")), [])
def y_ArrayList_get : MethodName := ⟨"java/util/ArrayList", "get", "(I)Ljava/lang/Object;"⟩
def Y_ArrayList_get : gY := (y_ArrayList_get, prog_29_method_20_code, 2, some (FieldType.object "java/lang/Object"), [])
def y_Objects_checkIndex : MethodName := ⟨"java/util/Objects", "checkIndex", "(II)I"⟩
def Y_Objects_checkIndex : gY := (y_Objects_checkIndex, prog_33_method_17_code, 2, some FieldType.int, [])
def y_Preconditions_checkIndex : MethodName := ⟨"jdk/internal/util/Preconditions", "checkIndex", "(IILjava/util/function/BiFunction;)I"⟩
def Y_Preconditions_checkIndex : gY := (y_Preconditions_checkIndex, prog_37_method_11_code, 3, some FieldType.int, [])
def y_ArrayList_elementData : MethodName := ⟨"java/util/ArrayList", "elementData", "(I)Ljava/lang/Object;"⟩
def Y_ArrayList_elementData : gY := (y_ArrayList_elementData, prog_29_method_18_code, 2, some (FieldType.object "java/lang/Object"), [])
def y_Place_begin : MethodName := ⟨"MatchMill$Place", "begin", "(I)V"⟩
def Y_Place_begin : gY := (y_Place_begin, prog_5_method_2_code, 2, none, [])
def y_Place_leave : MethodName := ⟨"MatchMill$Place", "leave", "()V"⟩
def Y_Place_leave : gY := (y_Place_leave, prog_5_method_4_code, 1, none, [])
def y_Rows_putCases : MethodName := ⟨"MatchMill$Rows", "putCases", "(LMatchMill$Cases;)Z"⟩
def Y_Rows_putCases : gY := (y_Rows_putCases, prog_9_method_5_code, 6, some FieldType.boolean, [])
def y_Rows_insert : MethodName := ⟨"MatchMill$Rows", "insert", "(II)LMatchMill$Row;"⟩
def Y_Rows_insert : gY := (y_Rows_insert, prog_9_method_8_code, 3, some (FieldType.object "MatchMill$Row"), [])
def y_Row_init : MethodName := ⟨"MatchMill$Row", "<init>", "()V"⟩
def Y_Row_init : gY := (y_Row_init, prog_8_method_1_code, 1, none, [])
def y_ArrayList_remove : MethodName := ⟨"java/util/ArrayList", "remove", "(I)Ljava/lang/Object;"⟩
def Y_ArrayList_remove : gY := (y_ArrayList_remove, prog_29_method_29_code, 4, some (FieldType.object "java/lang/Object"), [])
def y_ArrayList_fastRemove : MethodName := ⟨"java/util/ArrayList", "fastRemove", "([Ljava/lang/Object;I)V"⟩
def Y_ArrayList_fastRemove : gY := (y_ArrayList_fastRemove, prog_29_method_39_code, 4, none, [])
def y_ArrayList_add3 : MethodName := ⟨"java/util/ArrayList", "add", "(ILjava/lang/Object;)V"⟩
def Y_ArrayList_add3 : gY := (y_ArrayList_add3, prog_29_method_26_code, 5, none, [])
def y_ArrayList_rangeCheckForAdd : MethodName := ⟨"java/util/ArrayList", "rangeCheckForAdd", "(I)V"⟩
def Y_ArrayList_rangeCheckForAdd : gY := (y_ArrayList_rangeCheckForAdd, prog_29_method_45_code, 2, none, [])
def y_Cases_patternOf : MethodName := ⟨"MatchMill$Cases", "patternOf", "(I)LMatchMill$Term;"⟩
def Y_Cases_patternOf : gY := (y_Cases_patternOf, prog_2_method_7_code, 2, some (FieldType.object "MatchMill$Term"), [])
def y_Row_begin : MethodName := ⟨"MatchMill$Row", "begin", "(ILMatchMill$Term;)V"⟩
def Y_Row_begin : gY := (y_Row_begin, prog_8_method_2_code, 3, none, [])
def y_Rows_part : MethodName := ⟨"MatchMill$Rows", "part", "(II)Z"⟩
def Y_Rows_part : gY := (y_Rows_part, prog_9_method_7_code, 8, some FieldType.boolean, [])
def y_Row_tidy : MethodName := ⟨"MatchMill$Row", "tidy", "()I"⟩
def Y_Row_tidy : gY := (y_Row_tidy, prog_8_method_6_code, 4, some FieldType.int, [])
def y_Row_bindNames : MethodName := ⟨"MatchMill$Row", "bindNames", "(II)V"⟩
def Y_Row_bindNames : gY := (y_Row_bindNames, prog_8_method_7_code, 4, none, [])
def y_Row_moveWishes : MethodName := ⟨"MatchMill$Row", "moveWishes", "(II)V"⟩
def Y_Row_moveWishes : gY := (y_Row_moveWishes, prog_8_method_10_code, 4, none, [])
def y_Row_become : MethodName := ⟨"MatchMill$Row", "become", "(LMatchMill$Row;)V"⟩
def Y_Row_become : gY := (y_Row_become, prog_8_method_3_code, 3, none, [])
def y_Row_choose : MethodName := ⟨"MatchMill$Row", "choose", "(II)V"⟩
def Y_Row_choose : gY := (y_Row_choose, prog_8_method_8_code, 3, none, [])
def y_Tree_plant : MethodName := ⟨"MatchMill$Tree", "plant", "(III)Z"⟩
def Y_Tree_plant : gY := (y_Tree_plant, prog_11_method_7_code, 6, some FieldType.boolean, [])
def y_Rows_size : MethodName := ⟨"MatchMill$Rows", "size", "()I"⟩
def Y_Rows_size : gY := (y_Rows_size, prog_9_method_2_code, 1, some FieldType.int, [])
def y_Rows_rowAt : MethodName := ⟨"MatchMill$Rows", "rowAt", "(I)LMatchMill$Row;"⟩
def Y_Rows_rowAt : gY := (y_Rows_rowAt, prog_9_method_4_code, 2, some (FieldType.object "MatchMill$Row"), [])
def y_Row_hasWishes : MethodName := ⟨"MatchMill$Row", "hasWishes", "()Z"⟩
def Y_Row_hasWishes : gY := (y_Row_hasWishes, prog_8_method_4_code, 1, some FieldType.boolean, [])
def y_Tree_ask : MethodName := ⟨"MatchMill$Tree", "ask", "(III)Z"⟩
def Y_Tree_ask : gY := (y_Tree_ask, prog_11_method_9_code, 6, some FieldType.boolean, [])
def y_Tree_nextQuestion : MethodName := ⟨"MatchMill$Tree", "nextQuestion", "()LMatchMill$Question;"⟩
def Y_Tree_nextQuestion : gY := (y_Tree_nextQuestion, prog_11_method_10_code, 1, some (FieldType.object "MatchMill$Question"), [])
def y_Question_init : MethodName := ⟨"MatchMill$Question", "<init>", "()V"⟩
def Y_Question_init : gY := (y_Question_init, prog_7_method_1_code, 1, none, [])
def y_Places_distanceOf : MethodName := ⟨"MatchMill$Places", "distanceOf", "(I)I"⟩
def Y_Places_distanceOf : gY := (y_Places_distanceOf, prog_6_method_4_code, 2, some FieldType.int, [])
def y_Places_size : MethodName := ⟨"MatchMill$Places", "size", "()I"⟩
def Y_Places_size : gY := (y_Places_size, prog_6_method_3_code, 1, some FieldType.int, [])
def y_Tree_keepNumbers : MethodName := ⟨"MatchMill$Tree", "keepNumbers", "(LMatchMill$Question;)V"⟩
def Y_Tree_keepNumbers : gY := (y_Tree_keepNumbers, prog_11_method_11_code, 6, none, [])
def y_Row_wishFor : MethodName := ⟨"MatchMill$Row", "wishFor", "(I)I"⟩
def Y_Row_wishFor : gY := (y_Row_wishFor, prog_8_method_5_code, 3, some FieldType.int, [])
def y_Tree_keepNumber : MethodName := ⟨"MatchMill$Tree", "keepNumber", "(II)V"⟩
def Y_Tree_keepNumber : gY := (y_Tree_keepNumber, prog_11_method_12_code, 5, none, [])
def y_Types_constructorsOf : MethodName := ⟨"MatchMill$Types", "constructorsOf", "(I)I"⟩
def Y_Types_constructorsOf : gY := (y_Types_constructorsOf, prog_12_method_8_code, 2, some FieldType.int, [])
def y_Cases_isGuarded : MethodName := ⟨"MatchMill$Cases", "isGuarded", "(I)Z"⟩
def Y_Cases_isGuarded : gY := (y_Cases_isGuarded, prog_2_method_8_code, 2, some FieldType.boolean, [])
def y_Rows_leaveOut : MethodName := ⟨"MatchMill$Rows", "leaveOut", "(II)V"⟩
def Y_Rows_leaveOut : gY := (y_Rows_leaveOut, prog_9_method_9_code, 6, none, [])
def y_ArrayList_set : MethodName := ⟨"java/util/ArrayList", "set", "(ILjava/lang/Object;)Ljava/lang/Object;"⟩
def Y_ArrayList_set : gY := (y_ArrayList_set, prog_29_method_23_code, 4, some (FieldType.object "java/lang/Object"), [])
def y_Tree_fail : MethodName := ⟨"MatchMill$Tree", "fail", "()V"⟩
def Y_Tree_fail : gY := (y_Tree_fail, prog_11_method_8_code, 1, none, [])
def y_Places_tellAll : MethodName := ⟨"MatchMill$Places", "tellAll", "([I)I"⟩
def Y_Places_tellAll : gY := (y_Places_tellAll, prog_6_method_8_code, 2, some FieldType.int, [])
def y_Places_tell : MethodName := ⟨"MatchMill$Places", "tell", "(II[II)I"⟩
def Y_Places_tell : gY := (y_Places_tell, prog_6_method_9_code, 8, some FieldType.int, [])
def y_Places_leave : MethodName := ⟨"MatchMill$Places", "leave", "(I)V"⟩
def Y_Places_leave : gY := (y_Places_leave, prog_6_method_6_code, 2, none, [])
def y_Tree_follow : MethodName := ⟨"MatchMill$Tree", "follow", "(ILMatchMill$Question;)Z"⟩
def Y_Tree_follow : gY := (y_Tree_follow, prog_11_method_5_code, 6, some FieldType.boolean, [])
def y_Tree_meaning : MethodName := ⟨"MatchMill$Tree", "meaning", "(LMatchMill$Question;I)I"⟩
def Y_Tree_meaning : gY := (y_Tree_meaning, prog_11_method_13_code, 5, some FieldType.int, [])
def y_Tree_arityBehind : MethodName := ⟨"MatchMill$Tree", "arityBehind", "(LMatchMill$Question;I)I"⟩
def Y_Tree_arityBehind : gY := (y_Tree_arityBehind, prog_11_method_6_code, 4, some FieldType.int, [])
def y_Places_answer : MethodName := ⟨"MatchMill$Places", "answer", "(LMatchMill$Question;II)V"⟩
def Y_Places_answer : gY := (y_Places_answer, prog_6_method_5_code, 6, none, [])
def y_Place_answer : MethodName := ⟨"MatchMill$Place", "answer", "(IIII)V"⟩
def Y_Place_answer : gY := (y_Place_answer, prog_5_method_3_code, 5, none, [])
def y_Rows_putAnswer : MethodName := ⟨"MatchMill$Rows", "putAnswer", "(LMatchMill$Question;I)Z"⟩
def Y_Rows_putAnswer : gY := (y_Rows_putAnswer, prog_9_method_6_code, 10, some FieldType.boolean, [])
def y_Row_open : MethodName := ⟨"MatchMill$Row", "open", "(II)V"⟩
def Y_Row_open : gY := (y_Row_open, prog_8_method_9_code, 5, none, [])
def y_UOE_init : MethodName := ⟨"java/lang/UnsupportedOperationException", "<init>", "()V"⟩
def Y_UOE_init : gY := (y_UOE_init, prog_26_method_1_code, 1, none, [])
def y_Tree_size : MethodName := ⟨"MatchMill$Tree", "size", "()I"⟩
def Y_Tree_size : gY := (y_Tree_size, prog_11_method_2_code, 1, some FieldType.int, [])
def y_Mill_match : MethodName := ⟨"MatchMill", "match", "(I)I"⟩
def Y_Mill_match : gY := (y_Mill_match, prog_1_method_12_code, 3, some FieldType.int, [])
def y_Tree_lead : MethodName := ⟨"MatchMill$Tree", "lead", "(LMatchMill$Term;ILMatchMill$Passage;)I"⟩
def Y_Tree_lead : gY := (y_Tree_lead, prog_11_method_16_code, 10, some FieldType.int, [])
def y_Passage_begin : MethodName := ⟨"MatchMill$Passage", "begin", "(LMatchMill$Term;)V"⟩
def Y_Passage_begin : gY := (y_Passage_begin, prog_3_method_3_code, 2, none, [])
def y_Tree_firstHeld : MethodName := ⟨"MatchMill$Tree", "firstHeld", "(II)LMatchMill$Row;"⟩
def Y_Tree_firstHeld : gY := (y_Tree_firstHeld, prog_11_method_17_code, 6, some (FieldType.object "MatchMill$Row"), [])
def y_Tree_questionBehind : MethodName := ⟨"MatchMill$Tree", "questionBehind", "(II)I"⟩
def Y_Tree_questionBehind : gY := (y_Tree_questionBehind, prog_11_method_15_code, 5, some FieldType.int, [])
def y_Passage_meet : MethodName := ⟨"MatchMill$Passage", "meet", "(II)LMatchMill$Term;"⟩
def Y_Passage_meet : gY := (y_Passage_meet, prog_3_method_4_code, 5, some (FieldType.object "MatchMill$Term"), [])
def y_Tree_answerFor : MethodName := ⟨"MatchMill$Tree", "answerFor", "(LMatchMill$Question;LMatchMill$Term;)I"⟩
def Y_Tree_answerFor : gY := (y_Tree_answerFor, prog_11_method_14_code, 4, some FieldType.int, [])
def y_Passage_bind : MethodName := ⟨"MatchMill$Passage", "bind", "(LMatchMill$Row;)V"⟩
def Y_Passage_bind : gY := (y_Passage_bind, prog_3_method_5_code, 4, none, [])
def y_Mill_bound : MethodName := ⟨"MatchMill", "bound", "(I)I"⟩
def Y_Mill_bound : gY := (y_Mill_bound, prog_1_method_14_code, 2, some FieldType.int, [])
def y_Passage_lengthOf : MethodName := ⟨"MatchMill$Passage", "lengthOf", "(I)I"⟩
def Y_Passage_lengthOf : gY := (y_Passage_lengthOf, prog_3_method_7_code, 3, some FieldType.int, [])
def y_Mill_boundAt : MethodName := ⟨"MatchMill", "boundAt", "(II)I"⟩
def Y_Mill_boundAt : gY := (y_Mill_boundAt, prog_1_method_15_code, 3, some FieldType.int, [])
def y_Passage_toldOf : MethodName := ⟨"MatchMill$Passage", "toldOf", "(II)I"⟩
def Y_Passage_toldOf : gY := (y_Passage_toldOf, prog_3_method_8_code, 5, some FieldType.int, [])
def y_Term_partAt : MethodName := ⟨"MatchMill$Term", "partAt", "(I)LMatchMill$Term;"⟩
def Y_Term_partAt : gY := (y_Term_partAt, prog_10_method_4_code, 6, some (FieldType.object "MatchMill$Term"), [])
def y_Mill_question : MethodName := ⟨"MatchMill", "question", "(II)I"⟩
def Y_Mill_question : gY := (y_Mill_question, prog_1_method_18_code, 3, some FieldType.int, [])
def y_Tree_factOf : MethodName := ⟨"MatchMill$Tree", "factOf", "(II)I"⟩
def Y_Tree_factOf : gY := (y_Tree_factOf, prog_11_method_20_code, 4, some FieldType.int, [])
def y_Mill_about : MethodName := ⟨"MatchMill", "about", "(I)I"⟩
def Y_Mill_about : gY := (y_Mill_about, prog_1_method_19_code, 2, some FieldType.int, [])
def y_Tree_total : MethodName := ⟨"MatchMill$Tree", "total", "(I)I"⟩
def Y_Tree_total : gY := (y_Tree_total, prog_11_method_21_code, 2, some FieldType.int, [])
def y_Model_init : MethodName := ⟨"MatchMillModel", "<init>", "()V"⟩
def Y_Model_init : gY := (y_Model_init, prog_14_method_1_code, 1, none, [])
def y_Model_forget : MethodName := ⟨"MatchMillModel", "forget", "()V"⟩
def Y_Model_forget : gY := (y_Model_forget, prog_14_method_4_code, 2, none, [])
def y_Model_thrown : MethodName := ⟨"MatchMillModel", "thrown", "()I"⟩
def Y_Model_thrown : gY := (y_Model_thrown, prog_14_method_2_code, 1, some FieldType.int, [])
def y_Model_type : MethodName := ⟨"MatchMillModel", "type", "(II)V"⟩
def Y_Model_type : gY := (y_Model_type, prog_14_method_7_code, 4, none, [])
def y_Model_refuses : MethodName := ⟨"MatchMillModel", "refuses", "(I)Z"⟩
def Y_Model_refuses : gY := (y_Model_refuses, prog_14_method_3_code, 2, some FieldType.boolean, [])
def y_Model_argument : MethodName := ⟨"MatchMillModel", "argument", "(III)I"⟩
def Y_Model_argument : gY := (y_Model_argument, prog_14_method_8_code, 6, some FieldType.int, [])
def y_Model_isMaker : MethodName := ⟨"MatchMillModel", "isMaker", "(II)Z"⟩
def Y_Model_isMaker : gY := (y_Model_isMaker, prog_14_method_6_code, 3, some FieldType.boolean, [])
def y_Model_isType : MethodName := ⟨"MatchMillModel", "isType", "(I)Z"⟩
def Y_Model_isType : gY := (y_Model_isType, prog_14_method_5_code, 2, some FieldType.boolean, [])
def y_Model_any : MethodName := ⟨"MatchMillModel", "any", "(I)I"⟩
def Y_Model_any : gY := (y_Model_any, prog_14_method_12_code, 2, some FieldType.int, [])
def y_Model_node : MethodName := ⟨"MatchMillModel", "node", "(IIIII)I"⟩
def Y_Model_node : gY := (y_Model_node, prog_14_method_9_code, 6, some FieldType.int, [])
def y_Model_push : MethodName := ⟨"MatchMillModel", "push", "(IZ)I"⟩
def Y_Model_push : gY := (y_Model_push, prog_14_method_10_code, 3, some FieldType.int, [])
def y_Model_number : MethodName := ⟨"MatchMillModel", "number", "(IIZ)I"⟩
def Y_Model_number : gY := (y_Model_number, prog_14_method_13_code, 4, some FieldType.int, [])
def y_Model_height : MethodName := ⟨"MatchMillModel", "height", "(Z)I"⟩
def Y_Model_height : gY := (y_Model_height, prog_14_method_11_code, 2, some FieldType.int, [])
def y_Model_make : MethodName := ⟨"MatchMillModel", "make", "(IIZ)I"⟩
def Y_Model_make : gY := (y_Model_make, prog_14_method_14_code, 12, some FieldType.int, [])
def y_Model_either : MethodName := ⟨"MatchMillModel", "either", "()I"⟩
def Y_Model_either : gY := (y_Model_either, prog_14_method_15_code, 4, some FieldType.int, [])
def y_Model_name : MethodName := ⟨"MatchMillModel", "name", "(I)I"⟩
def Y_Model_name : gY := (y_Model_name, prog_14_method_16_code, 7, some FieldType.int, [])
def y_Model_pop : MethodName := ⟨"MatchMillModel", "pop", "(Z)I"⟩
def Y_Model_pop : gY := (y_Model_pop, prog_14_method_17_code, 2, some FieldType.int, [])
def y_Model_addCase : MethodName := ⟨"MatchMillModel", "addCase", "(Z)I"⟩
def Y_Model_addCase : gY := (y_Model_addCase, prog_14_method_18_code, 3, some FieldType.int, [])
def y_Model_build : MethodName := ⟨"MatchMillModel", "build", "()I"⟩
def Y_Model_build : gY := (y_Model_build, prog_14_method_31_code, 7, some FieldType.int, [])
def y_Model_firstRows : MethodName := ⟨"MatchMillModel", "firstRows", "()V"⟩
def Y_Model_firstRows : gY := (y_Model_firstRows, prog_14_method_21_code, 4, none, [])
def y_Model_settle : MethodName := ⟨"MatchMillModel", "settle", "(I)V"⟩
def Y_Model_settle : gY := (y_Model_settle, prog_14_method_20_code, 10, none, [])
def y_Model_copyRow : MethodName := ⟨"MatchMillModel", "copyRow", "(II)V"⟩
def Y_Model_copyRow : gY := (y_Model_copyRow, prog_14_method_19_code, 4, none, [])
def y_Model_tellMissing : MethodName := ⟨"MatchMillModel", "tellMissing", "()V"⟩
def Y_Model_tellMissing : gY := (y_Model_tellMissing, prog_14_method_34_code, 8, none, [])
def y_Model_otherRows : MethodName := ⟨"MatchMillModel", "otherRows", "(III)V"⟩
def Y_Model_otherRows : gY := (y_Model_otherRows, prog_14_method_26_code, 5, none, [])
def y_Model_asks : MethodName := ⟨"MatchMillModel", "asks", "(II)V"⟩
def Y_Model_asks : gY := (y_Model_asks, prog_14_method_32_code, 8, none, [])
def y_Model_answers : MethodName := ⟨"MatchMillModel", "answers", "(III)I"⟩
def Y_Model_answers : gY := (y_Model_answers, prog_14_method_29_code, 6, some FieldType.int, [])
def y_Model_above : MethodName := ⟨"MatchMillModel", "above", "(IIIIZ)I"⟩
def Y_Model_above : gY := (y_Model_above, prog_14_method_28_code, 10, some FieldType.int, [])
def y_Model_wish : MethodName := ⟨"MatchMillModel", "wish", "(II)I"⟩
def Y_Model_wish : gY := (y_Model_wish, prog_14_method_22_code, 5, some FieldType.int, [])
def y_Model_answersNext : MethodName := ⟨"MatchMillModel", "answersNext", "(I)Z"⟩
def Y_Model_answersNext : gY := (y_Model_answersNext, prog_14_method_33_code, 9, some FieldType.boolean, [])
def y_Model_answerRows : MethodName := ⟨"MatchMillModel", "answerRows", "(IIIZIZ)V"⟩
def Y_Model_answerRows : gY := (y_Model_answerRows, prog_14_method_24_code, 14, none, [])
def y_Model_opens : MethodName := ⟨"MatchMillModel", "opens", "(III)V"⟩
def Y_Model_opens : gY := (y_Model_opens, prog_14_method_25_code, 6, none, [])
def y_Model_inside : MethodName := ⟨"MatchMillModel", "inside", "(III)I"⟩
def Y_Model_inside : gY := (y_Model_inside, prog_14_method_23_code, 6, some FieldType.int, [])
def y_Model_other : MethodName := ⟨"MatchMillModel", "other", "(III)I"⟩
def Y_Model_other : gY := (y_Model_other, prog_14_method_30_code, 5, some FieldType.int, [])
def y_Model_isWished : MethodName := ⟨"MatchMillModel", "isWished", "(IIII)Z"⟩
def Y_Model_isWished : gY := (y_Model_isWished, prog_14_method_27_code, 8, some FieldType.boolean, [])
def y_Model_match : MethodName := ⟨"MatchMillModel", "match", "(I)I"⟩
def Y_Model_match : gY := (y_Model_match, prog_14_method_35_code, 15, some FieldType.int, [])
def y_Model_below : MethodName := ⟨"MatchMillModel", "below", "(IIII)I"⟩
def Y_Model_below : gY := (y_Model_below, prog_14_method_36_code, 7, some FieldType.int, [])
def y_Model_asked : MethodName := ⟨"MatchMillModel", "asked", "(I)I"⟩
def Y_Model_asked : gY := (y_Model_asked, prog_14_method_37_code, 2, some FieldType.int, [])
def y_Model_bound : MethodName := ⟨"MatchMillModel", "bound", "(I)I"⟩
def Y_Model_bound : gY := (y_Model_bound, prog_14_method_39_code, 2, some FieldType.int, [])
def y_Model_tell : MethodName := ⟨"MatchMillModel", "tell", "(I)V"⟩
def Y_Model_tell : gY := (y_Model_tell, prog_14_method_38_code, 6, none, [])
def y_Model_boundAt : MethodName := ⟨"MatchMillModel", "boundAt", "(II)I"⟩
def Y_Model_boundAt : gY := (y_Model_boundAt, prog_14_method_40_code, 3, some FieldType.int, [])
def y_Model_missing : MethodName := ⟨"MatchMillModel", "missing", "(I)I"⟩
def Y_Model_missing : gY := (y_Model_missing, prog_14_method_41_code, 2, some FieldType.int, [])
def y_Model_unused : MethodName := ⟨"MatchMillModel", "unused", "(I)I"⟩
def Y_Model_unused : gY := (y_Model_unused, prog_14_method_42_code, 4, some FieldType.int, [])
def y_Model_question : MethodName := ⟨"MatchMillModel", "question", "(II)I"⟩
def Y_Model_question : gY := (y_Model_question, prog_14_method_43_code, 3, some FieldType.int, [])
def y_Model_about : MethodName := ⟨"MatchMillModel", "about", "(I)I"⟩
def Y_Model_about : gY := (y_Model_about, prog_14_method_44_code, 2, some FieldType.int, [])
def y_Model_clear : MethodName := ⟨"MatchMillModel", "clear", "()V"⟩
def Y_Model_clear : gY := (y_Model_clear, prog_14_method_45_code, 2, none, [])
def y_Law_type : MethodName := ⟨"MatchMillLaw", "type", "(LMatchMill;II)I"⟩
def Y_Law_type : gY := (y_Law_type, method_3_code, 4, some FieldType.int, [(0, 6, 9, 13), (0, 6, 12, 15)])
def y_Law_argument : MethodName := ⟨"MatchMillLaw", "argument", "(LMatchMill;III[J)I"⟩
def Y_Law_argument : gY := (y_Law_argument, method_4_code, 6, some FieldType.int, [(0, 12, 15, 13), (0, 12, 19, 15)])
def y_Law_any : MethodName := ⟨"MatchMillLaw", "any", "(LMatchMill;I[J)I"⟩
def Y_Law_any : gY := (y_Law_any, method_5_code, 4, some FieldType.int, [(0, 9, 12, 13), (0, 9, 15, 15)])
def y_Law_number : MethodName := ⟨"MatchMillLaw", "number", "(LMatchMill;IIZ[J)I"⟩
def Y_Law_number : gY := (y_Law_number, method_6_code, 6, some FieldType.int, [(0, 12, 15, 13), (0, 12, 19, 15)])
def y_Law_make : MethodName := ⟨"MatchMillLaw", "make", "(LMatchMill;IIZ[J)I"⟩
def Y_Law_make : gY := (y_Law_make, method_7_code, 6, some FieldType.int, [(0, 12, 15, 13), (0, 12, 19, 15)])
def y_Law_either : MethodName := ⟨"MatchMillLaw", "either", "(LMatchMill;[J)I"⟩
def Y_Law_either : gY := (y_Law_either, method_8_code, 3, some FieldType.int, [(0, 8, 11, 15)])
def y_Law_name : MethodName := ⟨"MatchMillLaw", "name", "(LMatchMill;I[J)I"⟩
def Y_Law_name : gY := (y_Law_name, method_9_code, 4, some FieldType.int, [(0, 9, 12, 13), (0, 9, 15, 15)])
def y_Law_addCase : MethodName := ⟨"MatchMillLaw", "addCase", "(LMatchMill;Z[J)I"⟩
def Y_Law_addCase : gY := (y_Law_addCase, method_10_code, 4, some FieldType.int, [(0, 9, 12, 15)])
def y_Law_build : MethodName := ⟨"MatchMillLaw", "build", "(LMatchMill;[J)I"⟩
def Y_Law_build : gY := (y_Law_build, method_11_code, 3, some FieldType.int, [(0, 8, 11, 15), (0, 8, 14, 46)])
def y_Law_match : MethodName := ⟨"MatchMillLaw", "match", "(LMatchMill;I[J)I"⟩
def Y_Law_match : gY := (y_Law_match, method_12_code, 4, some FieldType.int, [(0, 9, 12, 15)])
def y_Law_bound : MethodName := ⟨"MatchMillLaw", "bound", "(LMatchMill;I[J)I"⟩
def Y_Law_bound : gY := (y_Law_bound, method_13_code, 4, some FieldType.int, [(0, 9, 12, 13)])
def y_Law_boundAt : MethodName := ⟨"MatchMillLaw", "boundAt", "(LMatchMill;II[J)I"⟩
def Y_Law_boundAt : gY := (y_Law_boundAt, method_14_code, 5, some FieldType.int, [(0, 10, 13, 13)])
def y_Law_question : MethodName := ⟨"MatchMillLaw", "question", "(LMatchMill;II[J)I"⟩
def Y_Law_question : gY := (y_Law_question, method_15_code, 5, some FieldType.int, [(0, 10, 13, 13)])
def y_Law_about : MethodName := ⟨"MatchMillLaw", "about", "(LMatchMill;I[J)I"⟩
def Y_Law_about : gY := (y_Law_about, method_16_code, 4, some FieldType.int, [(0, 9, 12, 13)])
set_option maxRecDepth 100000 in
theorem kn_Mill_init : gKI y_Mill_init prog_1_method_1_code 3 0 := ⟨rfl, wI (i := 33) (by decide +kernel), wI (i := 34) rfl, wI (i := 1) (by decide +kernel), ⟨by decide, by decide⟩, by decide +kernel, by decide⟩
set_option maxRecDepth 100000 in
theorem kn_Types_init : gKI y_Types_init prog_12_method_1_code 1 0 := ⟨rfl, wI (i := 41) (by decide +kernel), wI (i := 42) rfl, wI (i := 2) (by decide +kernel), ⟨by decide, by decide⟩, by decide +kernel, by decide⟩
set_option maxRecDepth 100000 in
theorem ks_Arrays_fill : gKS Y_Arrays_fill 2 := ⟨wI (i := 45) (by decide +kernel), wI (i := 46) rfl, rfl, wI (i := 3) (by decide +kernel), ⟨by decide, by decide⟩, by decide +kernel, by decide⟩
set_option maxRecDepth 100000 in
theorem kn_Cases_init : gKI y_Cases_init prog_2_method_1_code 1 0 := ⟨rfl, wI (i := 61) (by decide +kernel), wI (i := 62) rfl, wI (i := 4) (by decide +kernel), ⟨by decide, by decide⟩, by decide +kernel, by decide⟩
set_option maxRecDepth 100000 in
theorem kn_Pile_init : gKI y_Pile_init prog_4_method_1_code 1 0 := ⟨rfl, wI (i := 80) (by decide +kernel), wI (i := 81) rfl, wI (i := 5) (by decide +kernel), ⟨by decide, by decide⟩, by decide +kernel, by decide⟩
set_option maxRecDepth 100000 in
theorem kn_Tree_init : gKI y_Tree_init prog_11_method_1_code 3 2 := ⟨rfl, wI (i := 94) (by decide +kernel), wI (i := 95) rfl, wI (i := 6) (by decide +kernel), ⟨by decide, by decide⟩, by decide +kernel, by decide⟩
set_option maxRecDepth 100000 in
theorem kn_Rows_init : gKI y_Rows_init prog_9_method_1_code 1 0 := ⟨rfl, wI (i := 100) (by decide +kernel), wI (i := 101) rfl, wI (i := 7) (by decide +kernel), ⟨by decide, by decide⟩, by decide +kernel, by decide⟩
set_option maxRecDepth 100000 in
theorem kn_ArrayList_init : gKI y_ArrayList_init prog_29_method_2_code 1 0 := ⟨rfl, wI (i := 106) (by decide +kernel), wI (i := 107) rfl, wI (i := 10) (by decide +kernel), ⟨by decide, by decide⟩, by decide +kernel, by decide⟩
set_option maxRecDepth 100000 in
theorem kn_AbstractList_init : gKI y_AbstractList_init prog_28_method_1_code 1 0 := ⟨rfl, wI (i := 109) (by decide +kernel), wI (i := 110) rfl, wI (i := 9) (by decide +kernel), ⟨by decide, by decide⟩, by decide +kernel, by decide⟩
set_option maxRecDepth 100000 in
theorem kn_AbstractCollection_init : gKI y_AbstractCollection_init prog_27_method_1_code 1 0 := ⟨rfl, wI (i := 112) (by decide +kernel), wI (i := 113) rfl, wI (i := 8) (by decide +kernel), ⟨by decide, by decide⟩, by decide +kernel, by decide⟩
set_option maxRecDepth 100000 in
theorem kn_Places_init : gKI y_Places_init prog_6_method_1_code 1 0 := ⟨rfl, wI (i := 139) (by decide +kernel), wI (i := 140) rfl, wI (i := 11) (by decide +kernel), ⟨by decide, by decide⟩, by decide +kernel, by decide⟩
set_option maxRecDepth 100000 in
theorem kn_Passage_init : gKI y_Passage_init prog_3_method_1_code 1 0 := ⟨rfl, wI (i := 199) (by decide +kernel), wI (i := 200) rfl, wI (i := 12) (by decide +kernel), ⟨by decide, by decide⟩, by decide +kernel, by decide⟩
set_option maxRecDepth 100000 in
theorem kv_Mill_pop : gKV "MatchMill" Y_Mill_pop 1 := ⟨wI (i := 247) (by decide +kernel), wI (i := 248) (by decide +kernel), wI (i := 249) rfl, rfl, wI (i := 1) (by decide +kernel), ⟨by decide, by decide⟩, by decide +kernel, by decide⟩
set_option maxRecDepth 100000 in
theorem kv_Mill_pileOf : gKV "MatchMill" Y_Mill_pileOf 1 := ⟨wI (i := 252) (by decide +kernel), wP (i := 0) (by decide +kernel), wI (i := 253) rfl, rfl, wI (i := 1) (by decide +kernel), ⟨by decide, by decide⟩, by decide +kernel, by decide⟩
set_option maxRecDepth 100000 in
theorem kv_Pile_fromTop : gKV "MatchMill$Pile" Y_Pile_fromTop 1 := ⟨wI (i := 255) (by decide +kernel), wI (i := 256) (by decide +kernel), wI (i := 257) rfl, rfl, wI (i := 5) (by decide +kernel), ⟨by decide, by decide⟩, by decide +kernel, by decide⟩
set_option maxRecDepth 100000 in
theorem kv_Pile_drop : gKV "MatchMill$Pile" Y_Pile_drop 1 := ⟨wI (i := 259) (by decide +kernel), wI (i := 260) (by decide +kernel), wI (i := 261) rfl, rfl, wI (i := 5) (by decide +kernel), ⟨by decide, by decide⟩, by decide +kernel, by decide⟩
set_option maxRecDepth 100000 in
theorem ks_Math_max : gKS Y_Math_max 2 := ⟨wI (i := 263) (by decide +kernel), wI (i := 264) rfl, rfl, wI (i := 20) (by decide +kernel), ⟨by decide, by decide⟩, by decide +kernel, by decide⟩
set_option maxRecDepth 100000 in
theorem kv_Mill_asked : gKV "MatchMill" Y_Mill_asked 1 := ⟨wI (i := 266) (by decide +kernel), wI (i := 267) (by decide +kernel), wI (i := 268) rfl, rfl, wI (i := 1) (by decide +kernel), ⟨by decide, by decide⟩, by decide +kernel, by decide⟩
set_option maxRecDepth 100000 in
theorem kv_Passage_questionAt : gKV "MatchMill$Passage" Y_Passage_questionAt 1 := ⟨wI (i := 270) (by decide +kernel), wI (i := 271) (by decide +kernel), wI (i := 272) rfl, rfl, wI (i := 12) (by decide +kernel), ⟨by decide, by decide⟩, by decide +kernel, by decide⟩
set_option maxRecDepth 100000 in
theorem kv_Mill_missing : gKV "MatchMill" Y_Mill_missing 1 := ⟨wI (i := 274) (by decide +kernel), wI (i := 275) (by decide +kernel), wI (i := 276) rfl, rfl, wI (i := 1) (by decide +kernel), ⟨by decide, by decide⟩, by decide +kernel, by decide⟩
set_option maxRecDepth 100000 in
theorem kv_Tree_missingAt : gKV "MatchMill$Tree" Y_Tree_missingAt 1 := ⟨wI (i := 278) (by decide +kernel), wI (i := 279) (by decide +kernel), wI (i := 280) rfl, rfl, wI (i := 6) (by decide +kernel), ⟨by decide, by decide⟩, by decide +kernel, by decide⟩
set_option maxRecDepth 100000 in
theorem kv_Mill_unused : gKV "MatchMill" Y_Mill_unused 1 := ⟨wI (i := 282) (by decide +kernel), wI (i := 283) (by decide +kernel), wI (i := 284) rfl, rfl, wI (i := 1) (by decide +kernel), ⟨by decide, by decide⟩, by decide +kernel, by decide⟩
set_option maxRecDepth 100000 in
theorem kv_Tree_unusedAt : gKV "MatchMill$Tree" Y_Tree_unusedAt 1 := ⟨wI (i := 286) (by decide +kernel), wI (i := 287) (by decide +kernel), wI (i := 288) rfl, rfl, wI (i := 6) (by decide +kernel), ⟨by decide, by decide⟩, by decide +kernel, by decide⟩
set_option maxRecDepth 100000 in
theorem kv_Cases_size : gKV "MatchMill$Cases" Y_Cases_size 0 := ⟨wI (i := 290) (by decide +kernel), wI (i := 291) (by decide +kernel), wI (i := 292) rfl, rfl, wI (i := 4) (by decide +kernel), ⟨by decide, by decide⟩, by decide +kernel, by decide⟩
set_option maxRecDepth 100000 in
theorem kv_Mill_clear : gKV "MatchMill" Y_Mill_clear 0 := ⟨wI (i := 294) (by decide +kernel), wI (i := 295) (by decide +kernel), wI (i := 296) rfl, rfl, wI (i := 1) (by decide +kernel), ⟨by decide, by decide⟩, by decide +kernel, by decide⟩
set_option maxRecDepth 100000 in
theorem kv_Types_forget : gKV "MatchMill$Types" Y_Types_forget 0 := ⟨wI (i := 298) (by decide +kernel), wI (i := 299) (by decide +kernel), wI (i := 300) rfl, rfl, wI (i := 2) (by decide +kernel), ⟨by decide, by decide⟩, by decide +kernel, by decide⟩
set_option maxRecDepth 100000 in
theorem kv_Pile_height : gKV "MatchMill$Pile" Y_Pile_height 0 := ⟨wI (i := 302) (by decide +kernel), wI (i := 303) (by decide +kernel), wI (i := 304) rfl, rfl, wI (i := 5) (by decide +kernel), ⟨by decide, by decide⟩, by decide +kernel, by decide⟩
set_option maxRecDepth 100000 in
theorem kv_Cases_forget : gKV "MatchMill$Cases" Y_Cases_forget 0 := ⟨wI (i := 306) (by decide +kernel), wI (i := 307) (by decide +kernel), wI (i := 308) rfl, rfl, wI (i := 4) (by decide +kernel), ⟨by decide, by decide⟩, by decide +kernel, by decide⟩
set_option maxRecDepth 100000 in
theorem kv_Passage_forget : gKV "MatchMill$Passage" Y_Passage_forget 0 := ⟨wI (i := 310) (by decide +kernel), wI (i := 311) (by decide +kernel), wI (i := 312) rfl, rfl, wI (i := 12) (by decide +kernel), ⟨by decide, by decide⟩, by decide +kernel, by decide⟩
set_option maxRecDepth 100000 in
theorem kv_ArrayList_clear : gKV "java/util/ArrayList" Y_ArrayList_clear 0 := ⟨wI (i := 314) (by decide +kernel), wI (i := 315) (by decide +kernel), wI (i := 316) rfl, rfl, wI (i := 10) (by decide +kernel), ⟨by decide, by decide⟩, by decide +kernel, by decide⟩
set_option maxRecDepth 100000 in
theorem kv_Mill_forgetTree : gKV "MatchMill" Y_Mill_forgetTree 0 := ⟨wI (i := 319) (by decide +kernel), wP (i := 1) (by decide +kernel), wI (i := 320) rfl, rfl, wI (i := 1) (by decide +kernel), ⟨by decide, by decide⟩, by decide +kernel, by decide⟩
set_option maxRecDepth 100000 in
theorem kv_Mill_type : gKV "MatchMill" Y_Mill_type 2 := ⟨wI (i := 327) (by decide +kernel), wI (i := 328) (by decide +kernel), wI (i := 329) rfl, rfl, wI (i := 1) (by decide +kernel), ⟨by decide, by decide⟩, by decide +kernel, by decide⟩
set_option maxRecDepth 100000 in
theorem kv_Types_canBe : gKV "MatchMill$Types" Y_Types_canBe 1 := ⟨wI (i := 331) (by decide +kernel), wI (i := 332) (by decide +kernel), wI (i := 333) rfl, rfl, wI (i := 2) (by decide +kernel), ⟨by decide, by decide⟩, by decide +kernel, by decide⟩
set_option maxRecDepth 100000 in
theorem kn_Throwable_init : gKI y_Throwable_init prog_25_method_1_code 1 0 := ⟨rfl, wI (i := 357) (by decide +kernel), wI (i := 358) rfl, wI (i := 14) (by decide +kernel), ⟨by decide, by decide⟩, by decide +kernel, by decide⟩
set_option maxRecDepth 100000 in
theorem kn_IAE_init : gKI y_IAE_init prog_18_method_1_code 1 0 := ⟨rfl, wI (i := 376) (by decide +kernel), wI (i := 377) rfl, wI (i := 17) (by decide +kernel), ⟨by decide, by decide⟩, by decide +kernel, by decide⟩
set_option maxRecDepth 100000 in
theorem kn_RuntimeException_init : gKI y_RuntimeException_init prog_23_method_1_code 1 0 := ⟨rfl, wI (i := 379) (by decide +kernel), wI (i := 380) rfl, wI (i := 16) (by decide +kernel), ⟨by decide, by decide⟩, by decide +kernel, by decide⟩
set_option maxRecDepth 100000 in
theorem kn_Exception_init : gKI y_Exception_init prog_17_method_1_code 1 0 := ⟨rfl, wI (i := 382) (by decide +kernel), wI (i := 383) rfl, wI (i := 15) (by decide +kernel), ⟨by decide, by decide⟩, by decide +kernel, by decide⟩
set_option maxRecDepth 100000 in
theorem kv_Types_isTold : gKV "MatchMill$Types" Y_Types_isTold 1 := ⟨wI (i := 398) (by decide +kernel), wI (i := 399) (by decide +kernel), wI (i := 400) rfl, rfl, wI (i := 2) (by decide +kernel), ⟨by decide, by decide⟩, by decide +kernel, by decide⟩
set_option maxRecDepth 100000 in
theorem kn_ISE_init : gKI y_ISE_init prog_19_method_1_code 1 0 := ⟨rfl, wI (i := 412) (by decide +kernel), wI (i := 413) rfl, wI (i := 18) (by decide +kernel), ⟨by decide, by decide⟩, by decide +kernel, by decide⟩
set_option maxRecDepth 100000 in
theorem kv_Types_tell : gKV "MatchMill$Types" Y_Types_tell 2 := ⟨wI (i := 418) (by decide +kernel), wI (i := 419) (by decide +kernel), wI (i := 420) rfl, rfl, wI (i := 2) (by decide +kernel), ⟨by decide, by decide⟩, by decide +kernel, by decide⟩
set_option maxRecDepth 100000 in
theorem kv_Mill_argument : gKV "MatchMill" Y_Mill_argument 3 := ⟨wI (i := 425) (by decide +kernel), wI (i := 426) (by decide +kernel), wI (i := 427) rfl, rfl, wI (i := 1) (by decide +kernel), ⟨by decide, by decide⟩, by decide +kernel, by decide⟩
set_option maxRecDepth 100000 in
theorem kv_Types_hasConstructor : gKV "MatchMill$Types" Y_Types_hasConstructor 2 := ⟨wI (i := 429) (by decide +kernel), wI (i := 430) (by decide +kernel), wI (i := 431) rfl, rfl, wI (i := 2) (by decide +kernel), ⟨by decide, by decide⟩, by decide +kernel, by decide⟩
set_option maxRecDepth 100000 in
theorem kv_Types_arity : gKV "MatchMill$Types" Y_Types_arity 2 := ⟨wI (i := 434) (by decide +kernel), wI (i := 435) (by decide +kernel), wI (i := 436) rfl, rfl, wI (i := 2) (by decide +kernel), ⟨by decide, by decide⟩, by decide +kernel, by decide⟩
set_option maxRecDepth 100000 in
theorem kv_Types_addArgument : gKV "MatchMill$Types" Y_Types_addArgument 3 := ⟨wI (i := 439) (by decide +kernel), wI (i := 440) (by decide +kernel), wI (i := 441) rfl, rfl, wI (i := 2) (by decide +kernel), ⟨by decide, by decide⟩, by decide +kernel, by decide⟩
set_option maxRecDepth 100000 in
theorem kv_Mill_any : gKV "MatchMill" Y_Mill_any 1 := ⟨wI (i := 446) (by decide +kernel), wI (i := 447) (by decide +kernel), wI (i := 448) rfl, rfl, wI (i := 1) (by decide +kernel), ⟨by decide, by decide⟩, by decide +kernel, by decide⟩
set_option maxRecDepth 100000 in
theorem kn_Term_init : gKI y_Term_init prog_10_method_1_code 7 4 := ⟨rfl, wI (i := 452) (by decide +kernel), wI (i := 453) rfl, wI (i := 19) (by decide +kernel), ⟨by decide, by decide⟩, by decide +kernel, by decide⟩
set_option maxRecDepth 100000 in
theorem kv_Mill_put : gKV "MatchMill" Y_Mill_put 2 := ⟨wI (i := 496) (by decide +kernel), wP (i := 3) (by decide +kernel), wI (i := 497) rfl, rfl, wI (i := 1) (by decide +kernel), ⟨by decide, by decide⟩, by decide +kernel, by decide⟩
set_option maxRecDepth 100000 in
theorem kv_Pile_isFull : gKV "MatchMill$Pile" Y_Pile_isFull 0 := ⟨wI (i := 499) (by decide +kernel), wI (i := 500) (by decide +kernel), wI (i := 501) rfl, rfl, wI (i := 5) (by decide +kernel), ⟨by decide, by decide⟩, by decide +kernel, by decide⟩
set_option maxRecDepth 100000 in
theorem kv_Pile_lay : gKV "MatchMill$Pile" Y_Pile_lay 1 := ⟨wI (i := 503) (by decide +kernel), wI (i := 504) (by decide +kernel), wI (i := 505) rfl, rfl, wI (i := 5) (by decide +kernel), ⟨by decide, by decide⟩, by decide +kernel, by decide⟩
set_option maxRecDepth 100000 in
theorem kv_Mill_number : gKV "MatchMill" Y_Mill_number 3 := ⟨wI (i := 510) (by decide +kernel), wI (i := 511) (by decide +kernel), wI (i := 512) rfl, rfl, wI (i := 1) (by decide +kernel), ⟨by decide, by decide⟩, by decide +kernel, by decide⟩
set_option maxRecDepth 100000 in
theorem kv_Types_isOfNumbers : gKV "MatchMill$Types" Y_Types_isOfNumbers 1 := ⟨wI (i := 514) (by decide +kernel), wI (i := 515) (by decide +kernel), wI (i := 516) rfl, rfl, wI (i := 2) (by decide +kernel), ⟨by decide, by decide⟩, by decide +kernel, by decide⟩
set_option maxRecDepth 100000 in
theorem kv_Mill_make : gKV "MatchMill" Y_Mill_make 3 := ⟨wI (i := 521) (by decide +kernel), wI (i := 522) (by decide +kernel), wI (i := 523) rfl, rfl, wI (i := 1) (by decide +kernel), ⟨by decide, by decide⟩, by decide +kernel, by decide⟩
set_option maxRecDepth 100000 in
theorem kv_Types_areArguments : gKV "MatchMill$Types" Y_Types_areArguments 3 := ⟨wI (i := 525) (by decide +kernel), wI (i := 526) (by decide +kernel), wI (i := 527) rfl, rfl, wI (i := 2) (by decide +kernel), ⟨by decide, by decide⟩, by decide +kernel, by decide⟩
set_option maxRecDepth 100000 in
theorem kv_Pile_typeAt : gKV "MatchMill$Pile" Y_Pile_typeAt 1 := ⟨wI (i := 531) (by decide +kernel), wI (i := 532) (by decide +kernel), wI (i := 533) rfl, rfl, wI (i := 5) (by decide +kernel), ⟨by decide, by decide⟩, by decide +kernel, by decide⟩
set_option maxRecDepth 100000 in
theorem kv_Pile_shareNames : gKV "MatchMill$Pile" Y_Pile_shareNames 1 := ⟨wI (i := 536) (by decide +kernel), wI (i := 537) (by decide +kernel), wI (i := 538) rfl, rfl, wI (i := 5) (by decide +kernel), ⟨by decide, by decide⟩, by decide +kernel, by decide⟩
set_option maxRecDepth 100000 in
theorem kv_Pile_sizeOf : gKV "MatchMill$Pile" Y_Pile_sizeOf 1 := ⟨wI (i := 540) (by decide +kernel), wI (i := 541) (by decide +kernel), wI (i := 542) rfl, rfl, wI (i := 5) (by decide +kernel), ⟨by decide, by decide⟩, by decide +kernel, by decide⟩
set_option maxRecDepth 100000 in
theorem kv_Pile_take : gKV "MatchMill$Pile" Y_Pile_take 1 := ⟨wI (i := 544) (by decide +kernel), wI (i := 545) (by decide +kernel), wI (i := 546) rfl, rfl, wI (i := 5) (by decide +kernel), ⟨by decide, by decide⟩, by decide +kernel, by decide⟩
set_option maxRecDepth 100000 in
theorem ks_Math_min : gKS Y_Math_min 2 := ⟨wI (i := 548) (by decide +kernel), wI (i := 549) rfl, rfl, wI (i := 20) (by decide +kernel), ⟨by decide, by decide⟩, by decide +kernel, by decide⟩
set_option maxRecDepth 100000 in
theorem kv_Mill_either : gKV "MatchMill" Y_Mill_either 0 := ⟨wI (i := 554) (by decide +kernel), wI (i := 555) (by decide +kernel), wI (i := 556) rfl, rfl, wI (i := 1) (by decide +kernel), ⟨by decide, by decide⟩, by decide +kernel, by decide⟩
set_option maxRecDepth 100000 in
theorem kv_Pile_areAlike : gKV "MatchMill$Pile" Y_Pile_areAlike 1 := ⟨wI (i := 558) (by decide +kernel), wI (i := 559) (by decide +kernel), wI (i := 560) rfl, rfl, wI (i := 5) (by decide +kernel), ⟨by decide, by decide⟩, by decide +kernel, by decide⟩
set_option maxRecDepth 100000 in
theorem kv_Mill_name : gKV "MatchMill" Y_Mill_name 1 := ⟨wI (i := 566) (by decide +kernel), wI (i := 567) (by decide +kernel), wI (i := 568) rfl, rfl, wI (i := 1) (by decide +kernel), ⟨by decide, by decide⟩, by decide +kernel, by decide⟩
set_option maxRecDepth 100000 in
theorem ks_Mill_isName : gKS Y_Mill_isName 1 := ⟨wI (i := 570) (by decide +kernel), wI (i := 571) rfl, rfl, wI (i := 1) (by decide +kernel), ⟨by decide, by decide⟩, by decide +kernel, by decide⟩
set_option maxRecDepth 100000 in
theorem kv_Term_hasName : gKV "MatchMill$Term" Y_Term_hasName 1 := ⟨wI (i := 573) (by decide +kernel), wI (i := 574) (by decide +kernel), wI (i := 575) rfl, rfl, wI (i := 19) (by decide +kernel), ⟨by decide, by decide⟩, by decide +kernel, by decide⟩
set_option maxRecDepth 100000 in
theorem kv_Term_addName : gKV "MatchMill$Term" Y_Term_addName 1 := ⟨wI (i := 577) (by decide +kernel), wI (i := 578) (by decide +kernel), wI (i := 579) rfl, rfl, wI (i := 19) (by decide +kernel), ⟨by decide, by decide⟩, by decide +kernel, by decide⟩
set_option maxRecDepth 100000 in
theorem ks_Integer_bitCount : gKS Y_Integer_bitCount 1 := ⟨wI (i := 581) (by decide +kernel), wI (i := 582) rfl, rfl, wI (i := 21) (by decide +kernel), ⟨by decide, by decide⟩, by decide +kernel, by decide⟩
set_option maxRecDepth 100000 in
theorem kv_Mill_addCase : gKV "MatchMill" Y_Mill_addCase 1 := ⟨wI (i := 590) (by decide +kernel), wI (i := 591) (by decide +kernel), wI (i := 592) rfl, rfl, wI (i := 1) (by decide +kernel), ⟨by decide, by decide⟩, by decide +kernel, by decide⟩
set_option maxRecDepth 100000 in
theorem kv_Cases_accepts : gKV "MatchMill$Cases" Y_Cases_accepts 1 := ⟨wI (i := 594) (by decide +kernel), wI (i := 595) (by decide +kernel), wI (i := 596) rfl, rfl, wI (i := 4) (by decide +kernel), ⟨by decide, by decide⟩, by decide +kernel, by decide⟩
set_option maxRecDepth 100000 in
theorem kv_Cases_areOf : gKV "MatchMill$Cases" Y_Cases_areOf 1 := ⟨wI (i := 598) (by decide +kernel), wI (i := 599) (by decide +kernel), wI (i := 600) rfl, rfl, wI (i := 4) (by decide +kernel), ⟨by decide, by decide⟩, by decide +kernel, by decide⟩
set_option maxRecDepth 100000 in
theorem kv_Cases_add : gKV "MatchMill$Cases" Y_Cases_add 2 := ⟨wI (i := 602) (by decide +kernel), wI (i := 603) (by decide +kernel), wI (i := 604) rfl, rfl, wI (i := 4) (by decide +kernel), ⟨by decide, by decide⟩, by decide +kernel, by decide⟩
set_option maxRecDepth 100000 in
theorem kv_Mill_build : gKV "MatchMill" Y_Mill_build 0 := ⟨wI (i := 610) (by decide +kernel), wI (i := 611) (by decide +kernel), wI (i := 612) rfl, rfl, wI (i := 1) (by decide +kernel), ⟨by decide, by decide⟩, by decide +kernel, by decide⟩
set_option maxRecDepth 100000 in
theorem kv_Tree_grow : gKV "MatchMill$Tree" Y_Tree_grow 0 := ⟨wI (i := 615) (by decide +kernel), wI (i := 616) (by decide +kernel), wI (i := 617) rfl, rfl, wI (i := 6) (by decide +kernel), ⟨by decide, by decide⟩, by decide +kernel, by decide⟩
set_option maxRecDepth 100000 in
theorem kv_Tree_begin : gKV "MatchMill$Tree" Y_Tree_begin 0 := ⟨wI (i := 620) (by decide +kernel), wP (i := 4) (by decide +kernel), wI (i := 621) rfl, rfl, wI (i := 6) (by decide +kernel), ⟨by decide, by decide⟩, by decide +kernel, by decide⟩
set_option maxRecDepth 100000 in
theorem kv_Rows_cutTo : gKV "MatchMill$Rows" Y_Rows_cutTo 1 := ⟨wI (i := 623) (by decide +kernel), wI (i := 624) (by decide +kernel), wI (i := 625) rfl, rfl, wI (i := 7) (by decide +kernel), ⟨by decide, by decide⟩, by decide +kernel, by decide⟩
set_option maxRecDepth 100000 in
theorem kv_Places_begin : gKV "MatchMill$Places" Y_Places_begin 0 := ⟨wI (i := 628) (by decide +kernel), wI (i := 629) (by decide +kernel), wI (i := 630) rfl, rfl, wI (i := 11) (by decide +kernel), ⟨by decide, by decide⟩, by decide +kernel, by decide⟩
set_option maxRecDepth 100000 in
theorem kv_Places_add : gKV "MatchMill$Places" Y_Places_add 1 := ⟨wI (i := 633) (by decide +kernel), wP (i := 5) (by decide +kernel), wI (i := 634) rfl, rfl, wI (i := 11) (by decide +kernel), ⟨by decide, by decide⟩, by decide +kernel, by decide⟩
set_option maxRecDepth 100000 in
theorem kv_ArrayList_size : gKV "java/util/ArrayList" Y_ArrayList_size 0 := ⟨wI (i := 636) (by decide +kernel), wI (i := 637) (by decide +kernel), wI (i := 638) rfl, rfl, wI (i := 10) (by decide +kernel), ⟨by decide, by decide⟩, by decide +kernel, by decide⟩
set_option maxRecDepth 100000 in
theorem kn_Place_init : gKI y_Place_init prog_5_method_1_code 1 0 := ⟨rfl, wI (i := 642) (by decide +kernel), wI (i := 643) rfl, wI (i := 22) (by decide +kernel), ⟨by decide, by decide⟩, by decide +kernel, by decide⟩
set_option maxRecDepth 100000 in
theorem kv_ArrayList_add : gKV "java/util/ArrayList" Y_ArrayList_add 1 := ⟨wI (i := 667) (by decide +kernel), wI (i := 668) (by decide +kernel), wI (i := 669) rfl, rfl, wI (i := 10) (by decide +kernel), ⟨by decide, by decide⟩, by decide +kernel, by decide⟩
set_option maxRecDepth 100000 in
theorem kv_ArrayList_add2 : gKV "java/util/ArrayList" Y_ArrayList_add2 3 := ⟨wI (i := 672) (by decide +kernel), wP (i := 6) (by decide +kernel), wI (i := 673) rfl, rfl, wI (i := 10) (by decide +kernel), ⟨by decide, by decide⟩, by decide +kernel, by decide⟩
set_option maxRecDepth 100000 in
theorem kv_ArrayList_grow : gKV "java/util/ArrayList" Y_ArrayList_grow 0 := ⟨wI (i := 676) (by decide +kernel), wP (i := 7) (by decide +kernel), wI (i := 677) rfl, rfl, wI (i := 10) (by decide +kernel), ⟨by decide, by decide⟩, by decide +kernel, by decide⟩
set_option maxRecDepth 100000 in
theorem kv_ArrayList_grow2 : gKV "java/util/ArrayList" Y_ArrayList_grow2 1 := ⟨wI (i := 680) (by decide +kernel), wP (i := 8) (by decide +kernel), wI (i := 681) rfl, rfl, wI (i := 10) (by decide +kernel), ⟨by decide, by decide⟩, by decide +kernel, by decide⟩
set_option maxRecDepth 100000 in
theorem ks_ArraysSupport_newLength : gKS Y_ArraysSupport_newLength 3 := ⟨wI (i := 683) (by decide +kernel), wI (i := 684) rfl, rfl, wI (i := 23) (by decide +kernel), ⟨by decide, by decide⟩, by decide +kernel, by decide⟩
set_option maxRecDepth 100000 in
theorem ks_ArraysSupport_hugeLength : gKS Y_ArraysSupport_hugeLength 2 := ⟨wI (i := 688) (by decide +kernel), wI (i := 689) rfl, rfl, wI (i := 23) (by decide +kernel), ⟨by decide, by decide⟩, by decide +kernel, by decide⟩
set_option maxRecDepth 100000 in
theorem ks_Arrays_copyOf : gKS Y_Arrays_copyOf 2 := ⟨wI (i := 691) (by decide +kernel), wI (i := 692) rfl, rfl, wI (i := 3) (by decide +kernel), ⟨by decide, by decide⟩, by decide +kernel, by decide⟩
set_option maxRecDepth 100000 in
theorem ks_Arrays_copyOf2 : gKS Y_Arrays_copyOf2 3 := ⟨wI (i := 715) (by decide +kernel), wI (i := 716) rfl, rfl, wI (i := 3) (by decide +kernel), ⟨by decide, by decide⟩, by decide +kernel, by decide⟩
set_option maxRecDepth 100000 in
theorem kv_ArrayList_get : gKV "java/util/ArrayList" Y_ArrayList_get 1 := ⟨wI (i := 727) (by decide +kernel), wI (i := 728) (by decide +kernel), wI (i := 729) rfl, rfl, wI (i := 10) (by decide +kernel), ⟨by decide, by decide⟩, by decide +kernel, by decide⟩
set_option maxRecDepth 100000 in
theorem ks_Objects_checkIndex : gKS Y_Objects_checkIndex 2 := ⟨wI (i := 731) (by decide +kernel), wI (i := 732) rfl, rfl, wI (i := 25) (by decide +kernel), ⟨by decide, by decide⟩, by decide +kernel, by decide⟩
set_option maxRecDepth 100000 in
theorem ks_Preconditions_checkIndex : gKS Y_Preconditions_checkIndex 3 := ⟨wI (i := 734) (by decide +kernel), wI (i := 735) rfl, rfl, wI (i := 26) (by decide +kernel), ⟨by decide, by decide⟩, by decide +kernel, by decide⟩
set_option maxRecDepth 100000 in
theorem kv_ArrayList_elementData : gKV "java/util/ArrayList" Y_ArrayList_elementData 1 := ⟨wI (i := 737) (by decide +kernel), wI (i := 738) (by decide +kernel), wI (i := 739) rfl, rfl, wI (i := 10) (by decide +kernel), ⟨by decide, by decide⟩, by decide +kernel, by decide⟩
set_option maxRecDepth 100000 in
theorem kv_Place_begin : gKV "MatchMill$Place" Y_Place_begin 1 := ⟨wI (i := 741) (by decide +kernel), wI (i := 742) (by decide +kernel), wI (i := 743) rfl, rfl, wI (i := 22) (by decide +kernel), ⟨by decide, by decide⟩, by decide +kernel, by decide⟩
set_option maxRecDepth 100000 in
theorem kv_Place_leave : gKV "MatchMill$Place" Y_Place_leave 0 := ⟨wI (i := 745) (by decide +kernel), wI (i := 746) (by decide +kernel), wI (i := 747) rfl, rfl, wI (i := 22) (by decide +kernel), ⟨by decide, by decide⟩, by decide +kernel, by decide⟩
set_option maxRecDepth 100000 in
theorem kv_Rows_putCases : gKV "MatchMill$Rows" Y_Rows_putCases 1 := ⟨wI (i := 749) (by decide +kernel), wI (i := 750) (by decide +kernel), wI (i := 751) rfl, rfl, wI (i := 7) (by decide +kernel), ⟨by decide, by decide⟩, by decide +kernel, by decide⟩
set_option maxRecDepth 100000 in
theorem kv_Rows_insert : gKV "MatchMill$Rows" Y_Rows_insert 2 := ⟨wI (i := 755) (by decide +kernel), wP (i := 9) (by decide +kernel), wI (i := 756) rfl, rfl, wI (i := 7) (by decide +kernel), ⟨by decide, by decide⟩, by decide +kernel, by decide⟩
set_option maxRecDepth 100000 in
theorem kn_Row_init : gKI y_Row_init prog_8_method_1_code 1 0 := ⟨rfl, wI (i := 761) (by decide +kernel), wI (i := 762) rfl, wI (i := 27) (by decide +kernel), ⟨by decide, by decide⟩, by decide +kernel, by decide⟩
set_option maxRecDepth 100000 in
theorem kv_ArrayList_remove : gKV "java/util/ArrayList" Y_ArrayList_remove 1 := ⟨wI (i := 789) (by decide +kernel), wI (i := 790) (by decide +kernel), wI (i := 791) rfl, rfl, wI (i := 10) (by decide +kernel), ⟨by decide, by decide⟩, by decide +kernel, by decide⟩
set_option maxRecDepth 100000 in
theorem kv_ArrayList_fastRemove : gKV "java/util/ArrayList" Y_ArrayList_fastRemove 2 := ⟨wI (i := 794) (by decide +kernel), wP (i := 10) (by decide +kernel), wI (i := 795) rfl, rfl, wI (i := 10) (by decide +kernel), ⟨by decide, by decide⟩, by decide +kernel, by decide⟩
set_option maxRecDepth 100000 in
theorem kv_ArrayList_add3 : gKV "java/util/ArrayList" Y_ArrayList_add3 2 := ⟨wI (i := 798) (by decide +kernel), wI (i := 799) (by decide +kernel), wI (i := 800) rfl, rfl, wI (i := 10) (by decide +kernel), ⟨by decide, by decide⟩, by decide +kernel, by decide⟩
set_option maxRecDepth 100000 in
theorem kv_ArrayList_rangeCheckForAdd : gKV "java/util/ArrayList" Y_ArrayList_rangeCheckForAdd 1 := ⟨wI (i := 803) (by decide +kernel), wP (i := 11) (by decide +kernel), wI (i := 804) rfl, rfl, wI (i := 10) (by decide +kernel), ⟨by decide, by decide⟩, by decide +kernel, by decide⟩
set_option maxRecDepth 100000 in
theorem kv_Cases_patternOf : gKV "MatchMill$Cases" Y_Cases_patternOf 1 := ⟨wI (i := 807) (by decide +kernel), wI (i := 808) (by decide +kernel), wI (i := 809) rfl, rfl, wI (i := 4) (by decide +kernel), ⟨by decide, by decide⟩, by decide +kernel, by decide⟩
set_option maxRecDepth 100000 in
theorem kv_Row_begin : gKV "MatchMill$Row" Y_Row_begin 2 := ⟨wI (i := 811) (by decide +kernel), wI (i := 812) (by decide +kernel), wI (i := 813) rfl, rfl, wI (i := 27) (by decide +kernel), ⟨by decide, by decide⟩, by decide +kernel, by decide⟩
set_option maxRecDepth 100000 in
theorem kv_Rows_part : gKV "MatchMill$Rows" Y_Rows_part 2 := ⟨wI (i := 817) (by decide +kernel), wP (i := 12) (by decide +kernel), wI (i := 818) rfl, rfl, wI (i := 7) (by decide +kernel), ⟨by decide, by decide⟩, by decide +kernel, by decide⟩
set_option maxRecDepth 100000 in
theorem kv_Row_tidy : gKV "MatchMill$Row" Y_Row_tidy 0 := ⟨wI (i := 820) (by decide +kernel), wI (i := 821) (by decide +kernel), wI (i := 822) rfl, rfl, wI (i := 27) (by decide +kernel), ⟨by decide, by decide⟩, by decide +kernel, by decide⟩
set_option maxRecDepth 100000 in
theorem kv_Row_bindNames : gKV "MatchMill$Row" Y_Row_bindNames 2 := ⟨wI (i := 825) (by decide +kernel), wP (i := 13) (by decide +kernel), wI (i := 826) rfl, rfl, wI (i := 27) (by decide +kernel), ⟨by decide, by decide⟩, by decide +kernel, by decide⟩
set_option maxRecDepth 100000 in
theorem kv_Row_moveWishes : gKV "MatchMill$Row" Y_Row_moveWishes 2 := ⟨wI (i := 829) (by decide +kernel), wP (i := 14) (by decide +kernel), wI (i := 830) rfl, rfl, wI (i := 27) (by decide +kernel), ⟨by decide, by decide⟩, by decide +kernel, by decide⟩
set_option maxRecDepth 100000 in
theorem kv_Row_become : gKV "MatchMill$Row" Y_Row_become 1 := ⟨wI (i := 832) (by decide +kernel), wI (i := 833) (by decide +kernel), wI (i := 834) rfl, rfl, wI (i := 27) (by decide +kernel), ⟨by decide, by decide⟩, by decide +kernel, by decide⟩
set_option maxRecDepth 100000 in
theorem kv_Row_choose : gKV "MatchMill$Row" Y_Row_choose 2 := ⟨wI (i := 836) (by decide +kernel), wI (i := 837) (by decide +kernel), wI (i := 838) rfl, rfl, wI (i := 27) (by decide +kernel), ⟨by decide, by decide⟩, by decide +kernel, by decide⟩
set_option maxRecDepth 100000 in
theorem kv_Tree_plant : gKV "MatchMill$Tree" Y_Tree_plant 3 := ⟨wI (i := 841) (by decide +kernel), wP (i := 15) (by decide +kernel), wI (i := 842) rfl, rfl, wI (i := 6) (by decide +kernel), ⟨by decide, by decide⟩, by decide +kernel, by decide⟩
set_option maxRecDepth 100000 in
theorem kv_Rows_size : gKV "MatchMill$Rows" Y_Rows_size 0 := ⟨wI (i := 844) (by decide +kernel), wI (i := 845) (by decide +kernel), wI (i := 846) rfl, rfl, wI (i := 7) (by decide +kernel), ⟨by decide, by decide⟩, by decide +kernel, by decide⟩
set_option maxRecDepth 100000 in
theorem kv_Rows_rowAt : gKV "MatchMill$Rows" Y_Rows_rowAt 1 := ⟨wI (i := 848) (by decide +kernel), wI (i := 849) (by decide +kernel), wI (i := 850) rfl, rfl, wI (i := 7) (by decide +kernel), ⟨by decide, by decide⟩, by decide +kernel, by decide⟩
set_option maxRecDepth 100000 in
theorem kv_Row_hasWishes : gKV "MatchMill$Row" Y_Row_hasWishes 0 := ⟨wI (i := 852) (by decide +kernel), wI (i := 853) (by decide +kernel), wI (i := 854) rfl, rfl, wI (i := 27) (by decide +kernel), ⟨by decide, by decide⟩, by decide +kernel, by decide⟩
set_option maxRecDepth 100000 in
theorem kv_Tree_ask : gKV "MatchMill$Tree" Y_Tree_ask 3 := ⟨wI (i := 857) (by decide +kernel), wP (i := 16) (by decide +kernel), wI (i := 858) rfl, rfl, wI (i := 6) (by decide +kernel), ⟨by decide, by decide⟩, by decide +kernel, by decide⟩
set_option maxRecDepth 100000 in
theorem kv_Tree_nextQuestion : gKV "MatchMill$Tree" Y_Tree_nextQuestion 0 := ⟨wI (i := 861) (by decide +kernel), wP (i := 17) (by decide +kernel), wI (i := 862) rfl, rfl, wI (i := 6) (by decide +kernel), ⟨by decide, by decide⟩, by decide +kernel, by decide⟩
set_option maxRecDepth 100000 in
theorem kn_Question_init : gKI y_Question_init prog_7_method_1_code 1 0 := ⟨rfl, wI (i := 867) (by decide +kernel), wI (i := 868) rfl, wI (i := 28) (by decide +kernel), ⟨by decide, by decide⟩, by decide +kernel, by decide⟩
set_option maxRecDepth 100000 in
theorem kv_Places_distanceOf : gKV "MatchMill$Places" Y_Places_distanceOf 1 := ⟨wI (i := 917) (by decide +kernel), wI (i := 918) (by decide +kernel), wI (i := 919) rfl, rfl, wI (i := 11) (by decide +kernel), ⟨by decide, by decide⟩, by decide +kernel, by decide⟩
set_option maxRecDepth 100000 in
theorem kv_Places_size : gKV "MatchMill$Places" Y_Places_size 0 := ⟨wI (i := 921) (by decide +kernel), wI (i := 922) (by decide +kernel), wI (i := 923) rfl, rfl, wI (i := 11) (by decide +kernel), ⟨by decide, by decide⟩, by decide +kernel, by decide⟩
set_option maxRecDepth 100000 in
theorem kv_Tree_keepNumbers : gKV "MatchMill$Tree" Y_Tree_keepNumbers 1 := ⟨wI (i := 926) (by decide +kernel), wP (i := 18) (by decide +kernel), wI (i := 927) rfl, rfl, wI (i := 6) (by decide +kernel), ⟨by decide, by decide⟩, by decide +kernel, by decide⟩
set_option maxRecDepth 100000 in
theorem kv_Row_wishFor : gKV "MatchMill$Row" Y_Row_wishFor 1 := ⟨wI (i := 929) (by decide +kernel), wI (i := 930) (by decide +kernel), wI (i := 931) rfl, rfl, wI (i := 27) (by decide +kernel), ⟨by decide, by decide⟩, by decide +kernel, by decide⟩
set_option maxRecDepth 100000 in
theorem kv_Tree_keepNumber : gKV "MatchMill$Tree" Y_Tree_keepNumber 2 := ⟨wI (i := 934) (by decide +kernel), wP (i := 19) (by decide +kernel), wI (i := 935) rfl, rfl, wI (i := 6) (by decide +kernel), ⟨by decide, by decide⟩, by decide +kernel, by decide⟩
set_option maxRecDepth 100000 in
theorem kv_Types_constructorsOf : gKV "MatchMill$Types" Y_Types_constructorsOf 1 := ⟨wI (i := 937) (by decide +kernel), wI (i := 938) (by decide +kernel), wI (i := 939) rfl, rfl, wI (i := 2) (by decide +kernel), ⟨by decide, by decide⟩, by decide +kernel, by decide⟩
set_option maxRecDepth 100000 in
theorem kv_Cases_isGuarded : gKV "MatchMill$Cases" Y_Cases_isGuarded 1 := ⟨wI (i := 942) (by decide +kernel), wI (i := 943) (by decide +kernel), wI (i := 944) rfl, rfl, wI (i := 4) (by decide +kernel), ⟨by decide, by decide⟩, by decide +kernel, by decide⟩
set_option maxRecDepth 100000 in
theorem kv_Rows_leaveOut : gKV "MatchMill$Rows" Y_Rows_leaveOut 2 := ⟨wI (i := 946) (by decide +kernel), wI (i := 947) (by decide +kernel), wI (i := 948) rfl, rfl, wI (i := 7) (by decide +kernel), ⟨by decide, by decide⟩, by decide +kernel, by decide⟩
set_option maxRecDepth 100000 in
theorem kv_ArrayList_set : gKV "java/util/ArrayList" Y_ArrayList_set 2 := ⟨wI (i := 950) (by decide +kernel), wI (i := 951) (by decide +kernel), wI (i := 952) rfl, rfl, wI (i := 10) (by decide +kernel), ⟨by decide, by decide⟩, by decide +kernel, by decide⟩
set_option maxRecDepth 100000 in
theorem kv_Tree_fail : gKV "MatchMill$Tree" Y_Tree_fail 0 := ⟨wI (i := 955) (by decide +kernel), wP (i := 20) (by decide +kernel), wI (i := 956) rfl, rfl, wI (i := 6) (by decide +kernel), ⟨by decide, by decide⟩, by decide +kernel, by decide⟩
set_option maxRecDepth 100000 in
theorem kv_Places_tellAll : gKV "MatchMill$Places" Y_Places_tellAll 1 := ⟨wI (i := 958) (by decide +kernel), wI (i := 959) (by decide +kernel), wI (i := 960) rfl, rfl, wI (i := 11) (by decide +kernel), ⟨by decide, by decide⟩, by decide +kernel, by decide⟩
set_option maxRecDepth 100000 in
theorem kv_Places_tell : gKV "MatchMill$Places" Y_Places_tell 4 := ⟨wI (i := 963) (by decide +kernel), wP (i := 21) (by decide +kernel), wI (i := 964) rfl, rfl, wI (i := 11) (by decide +kernel), ⟨by decide, by decide⟩, by decide +kernel, by decide⟩
set_option maxRecDepth 100000 in
theorem kv_Places_leave : gKV "MatchMill$Places" Y_Places_leave 1 := ⟨wI (i := 967) (by decide +kernel), wI (i := 968) (by decide +kernel), wI (i := 969) rfl, rfl, wI (i := 11) (by decide +kernel), ⟨by decide, by decide⟩, by decide +kernel, by decide⟩
set_option maxRecDepth 100000 in
theorem kv_Tree_follow : gKV "MatchMill$Tree" Y_Tree_follow 2 := ⟨wI (i := 973) (by decide +kernel), wP (i := 22) (by decide +kernel), wI (i := 974) rfl, rfl, wI (i := 6) (by decide +kernel), ⟨by decide, by decide⟩, by decide +kernel, by decide⟩
set_option maxRecDepth 100000 in
theorem kv_Tree_meaning : gKV "MatchMill$Tree" Y_Tree_meaning 2 := ⟨wI (i := 977) (by decide +kernel), wP (i := 23) (by decide +kernel), wI (i := 978) rfl, rfl, wI (i := 6) (by decide +kernel), ⟨by decide, by decide⟩, by decide +kernel, by decide⟩
set_option maxRecDepth 100000 in
theorem kv_Tree_arityBehind : gKV "MatchMill$Tree" Y_Tree_arityBehind 2 := ⟨wI (i := 981) (by decide +kernel), wP (i := 24) (by decide +kernel), wI (i := 982) rfl, rfl, wI (i := 6) (by decide +kernel), ⟨by decide, by decide⟩, by decide +kernel, by decide⟩
set_option maxRecDepth 100000 in
theorem kv_Places_answer : gKV "MatchMill$Places" Y_Places_answer 3 := ⟨wI (i := 985) (by decide +kernel), wI (i := 986) (by decide +kernel), wI (i := 987) rfl, rfl, wI (i := 11) (by decide +kernel), ⟨by decide, by decide⟩, by decide +kernel, by decide⟩
set_option maxRecDepth 100000 in
theorem kv_Place_answer : gKV "MatchMill$Place" Y_Place_answer 4 := ⟨wI (i := 989) (by decide +kernel), wI (i := 990) (by decide +kernel), wI (i := 991) rfl, rfl, wI (i := 22) (by decide +kernel), ⟨by decide, by decide⟩, by decide +kernel, by decide⟩
set_option maxRecDepth 100000 in
theorem kv_Rows_putAnswer : gKV "MatchMill$Rows" Y_Rows_putAnswer 2 := ⟨wI (i := 993) (by decide +kernel), wI (i := 994) (by decide +kernel), wI (i := 995) rfl, rfl, wI (i := 7) (by decide +kernel), ⟨by decide, by decide⟩, by decide +kernel, by decide⟩
set_option maxRecDepth 100000 in
theorem kv_Row_open : gKV "MatchMill$Row" Y_Row_open 2 := ⟨wI (i := 998) (by decide +kernel), wI (i := 999) (by decide +kernel), wI (i := 1000) rfl, rfl, wI (i := 27) (by decide +kernel), ⟨by decide, by decide⟩, by decide +kernel, by decide⟩
set_option maxRecDepth 100000 in
theorem kn_UOE_init : gKI y_UOE_init prog_26_method_1_code 1 0 := ⟨rfl, wI (i := 1011) (by decide +kernel), wI (i := 1012) rfl, wI (i := 29) (by decide +kernel), ⟨by decide, by decide⟩, by decide +kernel, by decide⟩
set_option maxRecDepth 100000 in
theorem kv_Tree_size : gKV "MatchMill$Tree" Y_Tree_size 0 := ⟨wI (i := 1017) (by decide +kernel), wI (i := 1018) (by decide +kernel), wI (i := 1019) rfl, rfl, wI (i := 6) (by decide +kernel), ⟨by decide, by decide⟩, by decide +kernel, by decide⟩
set_option maxRecDepth 100000 in
theorem kv_Mill_match : gKV "MatchMill" Y_Mill_match 1 := ⟨wI (i := 1024) (by decide +kernel), wI (i := 1025) (by decide +kernel), wI (i := 1026) rfl, rfl, wI (i := 1) (by decide +kernel), ⟨by decide, by decide⟩, by decide +kernel, by decide⟩
set_option maxRecDepth 100000 in
theorem kv_Tree_lead : gKV "MatchMill$Tree" Y_Tree_lead 3 := ⟨wI (i := 1029) (by decide +kernel), wI (i := 1030) (by decide +kernel), wI (i := 1031) rfl, rfl, wI (i := 6) (by decide +kernel), ⟨by decide, by decide⟩, by decide +kernel, by decide⟩
set_option maxRecDepth 100000 in
theorem kv_Passage_begin : gKV "MatchMill$Passage" Y_Passage_begin 1 := ⟨wI (i := 1033) (by decide +kernel), wI (i := 1034) (by decide +kernel), wI (i := 1035) rfl, rfl, wI (i := 12) (by decide +kernel), ⟨by decide, by decide⟩, by decide +kernel, by decide⟩
set_option maxRecDepth 100000 in
theorem kv_Tree_firstHeld : gKV "MatchMill$Tree" Y_Tree_firstHeld 2 := ⟨wI (i := 1040) (by decide +kernel), wP (i := 25) (by decide +kernel), wI (i := 1041) rfl, rfl, wI (i := 6) (by decide +kernel), ⟨by decide, by decide⟩, by decide +kernel, by decide⟩
set_option maxRecDepth 100000 in
theorem kv_Tree_questionBehind : gKV "MatchMill$Tree" Y_Tree_questionBehind 2 := ⟨wI (i := 1044) (by decide +kernel), wP (i := 26) (by decide +kernel), wI (i := 1045) rfl, rfl, wI (i := 6) (by decide +kernel), ⟨by decide, by decide⟩, by decide +kernel, by decide⟩
set_option maxRecDepth 100000 in
theorem kv_Passage_meet : gKV "MatchMill$Passage" Y_Passage_meet 2 := ⟨wI (i := 1047) (by decide +kernel), wI (i := 1048) (by decide +kernel), wI (i := 1049) rfl, rfl, wI (i := 12) (by decide +kernel), ⟨by decide, by decide⟩, by decide +kernel, by decide⟩
set_option maxRecDepth 100000 in
theorem kv_Tree_answerFor : gKV "MatchMill$Tree" Y_Tree_answerFor 2 := ⟨wI (i := 1053) (by decide +kernel), wP (i := 27) (by decide +kernel), wI (i := 1054) rfl, rfl, wI (i := 6) (by decide +kernel), ⟨by decide, by decide⟩, by decide +kernel, by decide⟩
set_option maxRecDepth 100000 in
theorem kv_Passage_bind : gKV "MatchMill$Passage" Y_Passage_bind 1 := ⟨wI (i := 1056) (by decide +kernel), wI (i := 1057) (by decide +kernel), wI (i := 1058) rfl, rfl, wI (i := 12) (by decide +kernel), ⟨by decide, by decide⟩, by decide +kernel, by decide⟩
set_option maxRecDepth 100000 in
theorem kv_Mill_bound : gKV "MatchMill" Y_Mill_bound 1 := ⟨wI (i := 1064) (by decide +kernel), wI (i := 1065) (by decide +kernel), wI (i := 1066) rfl, rfl, wI (i := 1) (by decide +kernel), ⟨by decide, by decide⟩, by decide +kernel, by decide⟩
set_option maxRecDepth 100000 in
theorem kv_Passage_lengthOf : gKV "MatchMill$Passage" Y_Passage_lengthOf 1 := ⟨wI (i := 1068) (by decide +kernel), wI (i := 1069) (by decide +kernel), wI (i := 1070) rfl, rfl, wI (i := 12) (by decide +kernel), ⟨by decide, by decide⟩, by decide +kernel, by decide⟩
set_option maxRecDepth 100000 in
theorem kv_Mill_boundAt : gKV "MatchMill" Y_Mill_boundAt 2 := ⟨wI (i := 1075) (by decide +kernel), wI (i := 1076) (by decide +kernel), wI (i := 1077) rfl, rfl, wI (i := 1) (by decide +kernel), ⟨by decide, by decide⟩, by decide +kernel, by decide⟩
set_option maxRecDepth 100000 in
theorem kv_Passage_toldOf : gKV "MatchMill$Passage" Y_Passage_toldOf 2 := ⟨wI (i := 1079) (by decide +kernel), wI (i := 1080) (by decide +kernel), wI (i := 1081) rfl, rfl, wI (i := 12) (by decide +kernel), ⟨by decide, by decide⟩, by decide +kernel, by decide⟩
set_option maxRecDepth 100000 in
theorem kv_Term_partAt : gKV "MatchMill$Term" Y_Term_partAt 1 := ⟨wI (i := 1083) (by decide +kernel), wI (i := 1084) (by decide +kernel), wI (i := 1085) rfl, rfl, wI (i := 19) (by decide +kernel), ⟨by decide, by decide⟩, by decide +kernel, by decide⟩
set_option maxRecDepth 100000 in
theorem kv_Mill_question : gKV "MatchMill" Y_Mill_question 2 := ⟨wI (i := 1090) (by decide +kernel), wI (i := 1091) (by decide +kernel), wI (i := 1092) rfl, rfl, wI (i := 1) (by decide +kernel), ⟨by decide, by decide⟩, by decide +kernel, by decide⟩
set_option maxRecDepth 100000 in
theorem kv_Tree_factOf : gKV "MatchMill$Tree" Y_Tree_factOf 2 := ⟨wI (i := 1094) (by decide +kernel), wI (i := 1095) (by decide +kernel), wI (i := 1096) rfl, rfl, wI (i := 6) (by decide +kernel), ⟨by decide, by decide⟩, by decide +kernel, by decide⟩
set_option maxRecDepth 100000 in
theorem kv_Mill_about : gKV "MatchMill" Y_Mill_about 1 := ⟨wI (i := 1101) (by decide +kernel), wI (i := 1102) (by decide +kernel), wI (i := 1103) rfl, rfl, wI (i := 1) (by decide +kernel), ⟨by decide, by decide⟩, by decide +kernel, by decide⟩
set_option maxRecDepth 100000 in
theorem kv_Tree_total : gKV "MatchMill$Tree" Y_Tree_total 1 := ⟨wI (i := 1105) (by decide +kernel), wI (i := 1106) (by decide +kernel), wI (i := 1107) rfl, rfl, wI (i := 6) (by decide +kernel), ⟨by decide, by decide⟩, by decide +kernel, by decide⟩
set_option maxRecDepth 100000 in
theorem kn_Model_init : gKI y_Model_init prog_14_method_1_code 1 0 := ⟨rfl, wI (i := 1111) (by decide +kernel), wI (i := 1112) rfl, wI (i := 13) (by decide +kernel), ⟨by decide, by decide⟩, by decide +kernel, by decide⟩
set_option maxRecDepth 100000 in
theorem kv_Model_forget : gKV "MatchMillModel" Y_Model_forget 0 := ⟨wI (i := 1120) (by decide +kernel), wP (i := 28) (by decide +kernel), wI (i := 1121) rfl, rfl, wI (i := 13) (by decide +kernel), ⟨by decide, by decide⟩, by decide +kernel, by decide⟩
set_option maxRecDepth 100000 in
theorem kv_Model_thrown : gKV "MatchMillModel" Y_Model_thrown 0 := ⟨wI (i := 1303) (by decide +kernel), wI (i := 1304) (by decide +kernel), wI (i := 1305) rfl, rfl, wI (i := 13) (by decide +kernel), ⟨by decide, by decide⟩, by decide +kernel, by decide⟩
set_option maxRecDepth 100000 in
theorem kv_Model_type : gKV "MatchMillModel" Y_Model_type 2 := ⟨wI (i := 1307) (by decide +kernel), wI (i := 1308) (by decide +kernel), wI (i := 1309) rfl, rfl, wI (i := 13) (by decide +kernel), ⟨by decide, by decide⟩, by decide +kernel, by decide⟩
set_option maxRecDepth 100000 in
theorem kv_Model_refuses : gKV "MatchMillModel" Y_Model_refuses 1 := ⟨wI (i := 1312) (by decide +kernel), wP (i := 29) (by decide +kernel), wI (i := 1313) rfl, rfl, wI (i := 13) (by decide +kernel), ⟨by decide, by decide⟩, by decide +kernel, by decide⟩
set_option maxRecDepth 100000 in
theorem kv_Model_argument : gKV "MatchMillModel" Y_Model_argument 3 := ⟨wI (i := 1315) (by decide +kernel), wI (i := 1316) (by decide +kernel), wI (i := 1317) rfl, rfl, wI (i := 13) (by decide +kernel), ⟨by decide, by decide⟩, by decide +kernel, by decide⟩
set_option maxRecDepth 100000 in
theorem kv_Model_isMaker : gKV "MatchMillModel" Y_Model_isMaker 2 := ⟨wI (i := 1320) (by decide +kernel), wP (i := 30) (by decide +kernel), wI (i := 1321) rfl, rfl, wI (i := 13) (by decide +kernel), ⟨by decide, by decide⟩, by decide +kernel, by decide⟩
set_option maxRecDepth 100000 in
theorem kv_Model_isType : gKV "MatchMillModel" Y_Model_isType 1 := ⟨wI (i := 1324) (by decide +kernel), wP (i := 31) (by decide +kernel), wI (i := 1325) rfl, rfl, wI (i := 13) (by decide +kernel), ⟨by decide, by decide⟩, by decide +kernel, by decide⟩
set_option maxRecDepth 100000 in
theorem kv_Model_any : gKV "MatchMillModel" Y_Model_any 1 := ⟨wI (i := 1327) (by decide +kernel), wI (i := 1328) (by decide +kernel), wI (i := 1329) rfl, rfl, wI (i := 13) (by decide +kernel), ⟨by decide, by decide⟩, by decide +kernel, by decide⟩
set_option maxRecDepth 100000 in
theorem kv_Model_node : gKV "MatchMillModel" Y_Model_node 5 := ⟨wI (i := 1332) (by decide +kernel), wP (i := 32) (by decide +kernel), wI (i := 1333) rfl, rfl, wI (i := 13) (by decide +kernel), ⟨by decide, by decide⟩, by decide +kernel, by decide⟩
set_option maxRecDepth 100000 in
theorem kv_Model_push : gKV "MatchMillModel" Y_Model_push 2 := ⟨wI (i := 1336) (by decide +kernel), wP (i := 33) (by decide +kernel), wI (i := 1337) rfl, rfl, wI (i := 13) (by decide +kernel), ⟨by decide, by decide⟩, by decide +kernel, by decide⟩
set_option maxRecDepth 100000 in
theorem kv_Model_number : gKV "MatchMillModel" Y_Model_number 3 := ⟨wI (i := 1339) (by decide +kernel), wI (i := 1340) (by decide +kernel), wI (i := 1341) rfl, rfl, wI (i := 13) (by decide +kernel), ⟨by decide, by decide⟩, by decide +kernel, by decide⟩
set_option maxRecDepth 100000 in
theorem kv_Model_height : gKV "MatchMillModel" Y_Model_height 1 := ⟨wI (i := 1344) (by decide +kernel), wP (i := 34) (by decide +kernel), wI (i := 1345) rfl, rfl, wI (i := 13) (by decide +kernel), ⟨by decide, by decide⟩, by decide +kernel, by decide⟩
set_option maxRecDepth 100000 in
theorem kv_Model_make : gKV "MatchMillModel" Y_Model_make 3 := ⟨wI (i := 1347) (by decide +kernel), wI (i := 1348) (by decide +kernel), wI (i := 1349) rfl, rfl, wI (i := 13) (by decide +kernel), ⟨by decide, by decide⟩, by decide +kernel, by decide⟩
set_option maxRecDepth 100000 in
theorem kv_Model_either : gKV "MatchMillModel" Y_Model_either 0 := ⟨wI (i := 1351) (by decide +kernel), wI (i := 1352) (by decide +kernel), wI (i := 1353) rfl, rfl, wI (i := 13) (by decide +kernel), ⟨by decide, by decide⟩, by decide +kernel, by decide⟩
set_option maxRecDepth 100000 in
theorem kv_Model_name : gKV "MatchMillModel" Y_Model_name 1 := ⟨wI (i := 1355) (by decide +kernel), wI (i := 1356) (by decide +kernel), wI (i := 1357) rfl, rfl, wI (i := 13) (by decide +kernel), ⟨by decide, by decide⟩, by decide +kernel, by decide⟩
set_option maxRecDepth 100000 in
theorem kv_Model_pop : gKV "MatchMillModel" Y_Model_pop 1 := ⟨wI (i := 1359) (by decide +kernel), wI (i := 1360) (by decide +kernel), wI (i := 1361) rfl, rfl, wI (i := 13) (by decide +kernel), ⟨by decide, by decide⟩, by decide +kernel, by decide⟩
set_option maxRecDepth 100000 in
theorem kv_Model_addCase : gKV "MatchMillModel" Y_Model_addCase 1 := ⟨wI (i := 1363) (by decide +kernel), wI (i := 1364) (by decide +kernel), wI (i := 1365) rfl, rfl, wI (i := 13) (by decide +kernel), ⟨by decide, by decide⟩, by decide +kernel, by decide⟩
set_option maxRecDepth 100000 in
theorem kv_Model_build : gKV "MatchMillModel" Y_Model_build 0 := ⟨wI (i := 1367) (by decide +kernel), wI (i := 1368) (by decide +kernel), wI (i := 1369) rfl, rfl, wI (i := 13) (by decide +kernel), ⟨by decide, by decide⟩, by decide +kernel, by decide⟩
set_option maxRecDepth 100000 in
theorem kv_Model_firstRows : gKV "MatchMillModel" Y_Model_firstRows 0 := ⟨wI (i := 1372) (by decide +kernel), wP (i := 35) (by decide +kernel), wI (i := 1373) rfl, rfl, wI (i := 13) (by decide +kernel), ⟨by decide, by decide⟩, by decide +kernel, by decide⟩
set_option maxRecDepth 100000 in
theorem kv_Model_settle : gKV "MatchMillModel" Y_Model_settle 1 := ⟨wI (i := 1377) (by decide +kernel), wP (i := 36) (by decide +kernel), wI (i := 1378) rfl, rfl, wI (i := 13) (by decide +kernel), ⟨by decide, by decide⟩, by decide +kernel, by decide⟩
set_option maxRecDepth 100000 in
theorem kv_Model_copyRow : gKV "MatchMillModel" Y_Model_copyRow 2 := ⟨wI (i := 1381) (by decide +kernel), wP (i := 37) (by decide +kernel), wI (i := 1382) rfl, rfl, wI (i := 13) (by decide +kernel), ⟨by decide, by decide⟩, by decide +kernel, by decide⟩
set_option maxRecDepth 100000 in
theorem kv_Model_tellMissing : gKV "MatchMillModel" Y_Model_tellMissing 0 := ⟨wI (i := 1385) (by decide +kernel), wP (i := 38) (by decide +kernel), wI (i := 1386) rfl, rfl, wI (i := 13) (by decide +kernel), ⟨by decide, by decide⟩, by decide +kernel, by decide⟩
set_option maxRecDepth 100000 in
theorem kv_Model_otherRows : gKV "MatchMillModel" Y_Model_otherRows 3 := ⟨wI (i := 1389) (by decide +kernel), wP (i := 39) (by decide +kernel), wI (i := 1390) rfl, rfl, wI (i := 13) (by decide +kernel), ⟨by decide, by decide⟩, by decide +kernel, by decide⟩
set_option maxRecDepth 100000 in
theorem kv_Model_asks : gKV "MatchMillModel" Y_Model_asks 2 := ⟨wI (i := 1393) (by decide +kernel), wP (i := 40) (by decide +kernel), wI (i := 1394) rfl, rfl, wI (i := 13) (by decide +kernel), ⟨by decide, by decide⟩, by decide +kernel, by decide⟩
set_option maxRecDepth 100000 in
theorem kv_Model_answers : gKV "MatchMillModel" Y_Model_answers 3 := ⟨wI (i := 1397) (by decide +kernel), wP (i := 41) (by decide +kernel), wI (i := 1398) rfl, rfl, wI (i := 13) (by decide +kernel), ⟨by decide, by decide⟩, by decide +kernel, by decide⟩
set_option maxRecDepth 100000 in
theorem kv_Model_above : gKV "MatchMillModel" Y_Model_above 5 := ⟨wI (i := 1401) (by decide +kernel), wP (i := 42) (by decide +kernel), wI (i := 1402) rfl, rfl, wI (i := 13) (by decide +kernel), ⟨by decide, by decide⟩, by decide +kernel, by decide⟩
set_option maxRecDepth 100000 in
theorem kv_Model_wish : gKV "MatchMillModel" Y_Model_wish 2 := ⟨wI (i := 1405) (by decide +kernel), wP (i := 43) (by decide +kernel), wI (i := 1406) rfl, rfl, wI (i := 13) (by decide +kernel), ⟨by decide, by decide⟩, by decide +kernel, by decide⟩
set_option maxRecDepth 100000 in
theorem kv_Model_answersNext : gKV "MatchMillModel" Y_Model_answersNext 1 := ⟨wI (i := 1409) (by decide +kernel), wP (i := 44) (by decide +kernel), wI (i := 1410) rfl, rfl, wI (i := 13) (by decide +kernel), ⟨by decide, by decide⟩, by decide +kernel, by decide⟩
set_option maxRecDepth 100000 in
theorem kv_Model_answerRows : gKV "MatchMillModel" Y_Model_answerRows 6 := ⟨wI (i := 1413) (by decide +kernel), wP (i := 45) (by decide +kernel), wI (i := 1414) rfl, rfl, wI (i := 13) (by decide +kernel), ⟨by decide, by decide⟩, by decide +kernel, by decide⟩
set_option maxRecDepth 100000 in
theorem kv_Model_opens : gKV "MatchMillModel" Y_Model_opens 3 := ⟨wI (i := 1417) (by decide +kernel), wP (i := 46) (by decide +kernel), wI (i := 1418) rfl, rfl, wI (i := 13) (by decide +kernel), ⟨by decide, by decide⟩, by decide +kernel, by decide⟩
set_option maxRecDepth 100000 in
theorem kv_Model_inside : gKV "MatchMillModel" Y_Model_inside 3 := ⟨wI (i := 1421) (by decide +kernel), wP (i := 47) (by decide +kernel), wI (i := 1422) rfl, rfl, wI (i := 13) (by decide +kernel), ⟨by decide, by decide⟩, by decide +kernel, by decide⟩
set_option maxRecDepth 100000 in
theorem kv_Model_other : gKV "MatchMillModel" Y_Model_other 3 := ⟨wI (i := 1425) (by decide +kernel), wP (i := 48) (by decide +kernel), wI (i := 1426) rfl, rfl, wI (i := 13) (by decide +kernel), ⟨by decide, by decide⟩, by decide +kernel, by decide⟩
set_option maxRecDepth 100000 in
theorem kv_Model_isWished : gKV "MatchMillModel" Y_Model_isWished 4 := ⟨wI (i := 1429) (by decide +kernel), wP (i := 49) (by decide +kernel), wI (i := 1430) rfl, rfl, wI (i := 13) (by decide +kernel), ⟨by decide, by decide⟩, by decide +kernel, by decide⟩
set_option maxRecDepth 100000 in
theorem kv_Model_match : gKV "MatchMillModel" Y_Model_match 1 := ⟨wI (i := 1432) (by decide +kernel), wI (i := 1433) (by decide +kernel), wI (i := 1434) rfl, rfl, wI (i := 13) (by decide +kernel), ⟨by decide, by decide⟩, by decide +kernel, by decide⟩
set_option maxRecDepth 100000 in
theorem kv_Model_below : gKV "MatchMillModel" Y_Model_below 4 := ⟨wI (i := 1437) (by decide +kernel), wP (i := 50) (by decide +kernel), wI (i := 1438) rfl, rfl, wI (i := 13) (by decide +kernel), ⟨by decide, by decide⟩, by decide +kernel, by decide⟩
set_option maxRecDepth 100000 in
theorem kv_Model_asked : gKV "MatchMillModel" Y_Model_asked 1 := ⟨wI (i := 1440) (by decide +kernel), wI (i := 1441) (by decide +kernel), wI (i := 1442) rfl, rfl, wI (i := 13) (by decide +kernel), ⟨by decide, by decide⟩, by decide +kernel, by decide⟩
set_option maxRecDepth 100000 in
theorem kv_Model_bound : gKV "MatchMillModel" Y_Model_bound 1 := ⟨wI (i := 1444) (by decide +kernel), wI (i := 1445) (by decide +kernel), wI (i := 1446) rfl, rfl, wI (i := 13) (by decide +kernel), ⟨by decide, by decide⟩, by decide +kernel, by decide⟩
set_option maxRecDepth 100000 in
theorem kv_Model_tell : gKV "MatchMillModel" Y_Model_tell 1 := ⟨wI (i := 1449) (by decide +kernel), wP (i := 51) (by decide +kernel), wI (i := 1450) rfl, rfl, wI (i := 13) (by decide +kernel), ⟨by decide, by decide⟩, by decide +kernel, by decide⟩
set_option maxRecDepth 100000 in
theorem kv_Model_boundAt : gKV "MatchMillModel" Y_Model_boundAt 2 := ⟨wI (i := 1452) (by decide +kernel), wI (i := 1453) (by decide +kernel), wI (i := 1454) rfl, rfl, wI (i := 13) (by decide +kernel), ⟨by decide, by decide⟩, by decide +kernel, by decide⟩
set_option maxRecDepth 100000 in
theorem kv_Model_missing : gKV "MatchMillModel" Y_Model_missing 1 := ⟨wI (i := 1456) (by decide +kernel), wI (i := 1457) (by decide +kernel), wI (i := 1458) rfl, rfl, wI (i := 13) (by decide +kernel), ⟨by decide, by decide⟩, by decide +kernel, by decide⟩
set_option maxRecDepth 100000 in
theorem kv_Model_unused : gKV "MatchMillModel" Y_Model_unused 1 := ⟨wI (i := 1460) (by decide +kernel), wI (i := 1461) (by decide +kernel), wI (i := 1462) rfl, rfl, wI (i := 13) (by decide +kernel), ⟨by decide, by decide⟩, by decide +kernel, by decide⟩
set_option maxRecDepth 100000 in
theorem kv_Model_question : gKV "MatchMillModel" Y_Model_question 2 := ⟨wI (i := 1464) (by decide +kernel), wI (i := 1465) (by decide +kernel), wI (i := 1466) rfl, rfl, wI (i := 13) (by decide +kernel), ⟨by decide, by decide⟩, by decide +kernel, by decide⟩
set_option maxRecDepth 100000 in
theorem kv_Model_about : gKV "MatchMillModel" Y_Model_about 1 := ⟨wI (i := 1468) (by decide +kernel), wI (i := 1469) (by decide +kernel), wI (i := 1470) rfl, rfl, wI (i := 13) (by decide +kernel), ⟨by decide, by decide⟩, by decide +kernel, by decide⟩
set_option maxRecDepth 100000 in
theorem kv_Model_clear : gKV "MatchMillModel" Y_Model_clear 0 := ⟨wI (i := 1472) (by decide +kernel), wI (i := 1473) (by decide +kernel), wI (i := 1474) rfl, rfl, wI (i := 13) (by decide +kernel), ⟨by decide, by decide⟩, by decide +kernel, by decide⟩
set_option maxRecDepth 100000 in
theorem ks_Law_type : gKS Y_Law_type 3 := ⟨wI (i := 322) (by decide +kernel), wI (i := 323) rfl, rfl, wI (i := 0) (by decide +kernel), ⟨by decide, by decide⟩, by decide +kernel, by decide⟩
set_option maxRecDepth 100000 in
theorem ks_Law_argument : gKS Y_Law_argument 5 := ⟨wI (i := 422) (by decide +kernel), wI (i := 423) rfl, rfl, wI (i := 0) (by decide +kernel), ⟨by decide, by decide⟩, by decide +kernel, by decide⟩
set_option maxRecDepth 100000 in
theorem ks_Law_any : gKS Y_Law_any 3 := ⟨wI (i := 443) (by decide +kernel), wI (i := 444) rfl, rfl, wI (i := 0) (by decide +kernel), ⟨by decide, by decide⟩, by decide +kernel, by decide⟩
set_option maxRecDepth 100000 in
theorem ks_Law_number : gKS Y_Law_number 5 := ⟨wI (i := 507) (by decide +kernel), wI (i := 508) rfl, rfl, wI (i := 0) (by decide +kernel), ⟨by decide, by decide⟩, by decide +kernel, by decide⟩
set_option maxRecDepth 100000 in
theorem ks_Law_make : gKS Y_Law_make 5 := ⟨wI (i := 518) (by decide +kernel), wI (i := 519) rfl, rfl, wI (i := 0) (by decide +kernel), ⟨by decide, by decide⟩, by decide +kernel, by decide⟩
set_option maxRecDepth 100000 in
theorem ks_Law_either : gKS Y_Law_either 2 := ⟨wI (i := 551) (by decide +kernel), wI (i := 552) rfl, rfl, wI (i := 0) (by decide +kernel), ⟨by decide, by decide⟩, by decide +kernel, by decide⟩
set_option maxRecDepth 100000 in
theorem ks_Law_name : gKS Y_Law_name 3 := ⟨wI (i := 563) (by decide +kernel), wI (i := 564) rfl, rfl, wI (i := 0) (by decide +kernel), ⟨by decide, by decide⟩, by decide +kernel, by decide⟩
set_option maxRecDepth 100000 in
theorem ks_Law_addCase : gKS Y_Law_addCase 3 := ⟨wI (i := 587) (by decide +kernel), wI (i := 588) rfl, rfl, wI (i := 0) (by decide +kernel), ⟨by decide, by decide⟩, by decide +kernel, by decide⟩
set_option maxRecDepth 100000 in
theorem ks_Law_build : gKS Y_Law_build 2 := ⟨wI (i := 606) (by decide +kernel), wI (i := 607) rfl, rfl, wI (i := 0) (by decide +kernel), ⟨by decide, by decide⟩, by decide +kernel, by decide⟩
set_option maxRecDepth 100000 in
theorem ks_Law_match : gKS Y_Law_match 3 := ⟨wI (i := 1021) (by decide +kernel), wI (i := 1022) rfl, rfl, wI (i := 0) (by decide +kernel), ⟨by decide, by decide⟩, by decide +kernel, by decide⟩
set_option maxRecDepth 100000 in
theorem ks_Law_bound : gKS Y_Law_bound 3 := ⟨wI (i := 1061) (by decide +kernel), wI (i := 1062) rfl, rfl, wI (i := 0) (by decide +kernel), ⟨by decide, by decide⟩, by decide +kernel, by decide⟩
set_option maxRecDepth 100000 in
theorem ks_Law_boundAt : gKS Y_Law_boundAt 4 := ⟨wI (i := 1072) (by decide +kernel), wI (i := 1073) rfl, rfl, wI (i := 0) (by decide +kernel), ⟨by decide, by decide⟩, by decide +kernel, by decide⟩
set_option maxRecDepth 100000 in
theorem ks_Law_question : gKS Y_Law_question 4 := ⟨wI (i := 1087) (by decide +kernel), wI (i := 1088) rfl, rfl, wI (i := 0) (by decide +kernel), ⟨by decide, by decide⟩, by decide +kernel, by decide⟩
set_option maxRecDepth 100000 in
theorem ks_Law_about : gKS Y_Law_about 3 := ⟨wI (i := 1098) (by decide +kernel), wI (i := 1099) rfl, rfl, wI (i := 0) (by decide +kernel), ⟨by decide, by decide⟩, by decide +kernel, by decide⟩

theorem ml_Law_64 : Cond.methodLink "MatchMillLaw" 64 y_Mill_init ∈ lw_tbl := wI (i := 32) (by decide +kernel)
theorem ml_Mill_3 : Cond.methodLink "MatchMill" 3 y_Object_init ∈ lw_tbl := wI (i := 35) (by decide +kernel)
theorem ml_Mill_11 : Cond.methodLink "MatchMill" 11 y_Types_init ∈ lw_tbl := wI (i := 40) (by decide +kernel)
theorem ml_Types_3 : Cond.methodLink "MatchMill$Types" 3 y_Object_init ∈ lw_tbl := wI (i := 43) (by decide +kernel)
theorem ml_Types_21 : Cond.methodLink "MatchMill$Types" 21 y_Arrays_fill ∈ lw_tbl := wI (i := 44) (by decide +kernel)
theorem ml_Cases_3 : Cond.methodLink "MatchMill$Cases" 3 y_Object_init ∈ lw_tbl := wI (i := 63) (by decide +kernel)
theorem ml_Pile_3 : Cond.methodLink "MatchMill$Pile" 3 y_Object_init ∈ lw_tbl := wI (i := 82) (by decide +kernel)
theorem ml_Mill_35 : Cond.methodLink "MatchMill" 35 y_Tree_init ∈ lw_tbl := wI (i := 93) (by decide +kernel)
theorem ml_Tree_3 : Cond.methodLink "MatchMill$Tree" 3 y_Object_init ∈ lw_tbl := wI (i := 96) (by decide +kernel)
theorem ml_Rows_3 : Cond.methodLink "MatchMill$Rows" 3 y_Object_init ∈ lw_tbl := wI (i := 102) (by decide +kernel)
theorem ml_Rows_11 : Cond.methodLink "MatchMill$Rows" 11 y_ArrayList_init ∈ lw_tbl := wI (i := 105) (by decide +kernel)
theorem ml_ArrayList_1 : Cond.methodLink "java/util/ArrayList" 1 y_AbstractList_init ∈ lw_tbl := wI (i := 108) (by decide +kernel)
theorem ml_AbstractList_1 : Cond.methodLink "java/util/AbstractList" 1 y_AbstractCollection_init ∈ lw_tbl := wI (i := 111) (by decide +kernel)
theorem ml_AbstractCollection_1 : Cond.methodLink "java/util/AbstractCollection" 1 y_Object_init ∈ lw_tbl := wI (i := 114) (by decide +kernel)
theorem ml_Places_3 : Cond.methodLink "MatchMill$Places" 3 y_Object_init ∈ lw_tbl := wI (i := 141) (by decide +kernel)
theorem ml_Places_11 : Cond.methodLink "MatchMill$Places" 11 y_ArrayList_init ∈ lw_tbl := wI (i := 143) (by decide +kernel)
theorem ml_Tree_27 : Cond.methodLink "MatchMill$Tree" 27 y_ArrayList_init ∈ lw_tbl := wI (i := 152) (by decide +kernel)
theorem ml_Passage_3 : Cond.methodLink "MatchMill$Passage" 3 y_Object_init ∈ lw_tbl := wI (i := 201) (by decide +kernel)
theorem ml_Passage_23 : Cond.methodLink "MatchMill$Passage" 23 y_ArrayList_init ∈ lw_tbl := wI (i := 204) (by decide +kernel)
theorem ml_Law_99 : Cond.methodLink "MatchMillLaw" 99 y_Mill_pop ∈ lw_tbl := wI (i := 246) (by decide +kernel)
theorem ml_Mill_94 : Cond.methodLink "MatchMill" 94 y_Mill_pileOf ∈ lw_tbl := wI (i := 250) (by decide +kernel)
theorem ml_Mill_126 : Cond.methodLink "MatchMill" 126 y_Pile_fromTop ∈ lw_tbl := wI (i := 254) (by decide +kernel)
theorem ml_Mill_136 : Cond.methodLink "MatchMill" 136 y_Pile_drop ∈ lw_tbl := wI (i := 258) (by decide +kernel)
theorem ml_Pile_28 : Cond.methodLink "MatchMill$Pile" 28 y_Math_max ∈ lw_tbl := wI (i := 262) (by decide +kernel)
theorem ml_Law_113 : Cond.methodLink "MatchMillLaw" 113 y_Mill_asked ∈ lw_tbl := wI (i := 265) (by decide +kernel)
theorem ml_Mill_181 : Cond.methodLink "MatchMill" 181 y_Passage_questionAt ∈ lw_tbl := wI (i := 269) (by decide +kernel)
theorem ml_Law_124 : Cond.methodLink "MatchMillLaw" 124 y_Mill_missing ∈ lw_tbl := wI (i := 273) (by decide +kernel)
theorem ml_Mill_190 : Cond.methodLink "MatchMill" 190 y_Tree_missingAt ∈ lw_tbl := wI (i := 277) (by decide +kernel)
theorem ml_Law_128 : Cond.methodLink "MatchMillLaw" 128 y_Mill_unused ∈ lw_tbl := wI (i := 281) (by decide +kernel)
theorem ml_Mill_193 : Cond.methodLink "MatchMill" 193 y_Tree_unusedAt ∈ lw_tbl := wI (i := 285) (by decide +kernel)
theorem ml_Tree_266 : Cond.methodLink "MatchMill$Tree" 266 y_Cases_size ∈ lw_tbl := wI (i := 289) (by decide +kernel)
theorem ml_Law_138 : Cond.methodLink "MatchMillLaw" 138 y_Mill_clear ∈ lw_tbl := wI (i := 293) (by decide +kernel)
theorem ml_Mill_202 : Cond.methodLink "MatchMill" 202 y_Types_forget ∈ lw_tbl := wI (i := 297) (by decide +kernel)
theorem ml_Mill_113 : Cond.methodLink "MatchMill" 113 y_Pile_height ∈ lw_tbl := wI (i := 301) (by decide +kernel)
theorem ml_Mill_205 : Cond.methodLink "MatchMill" 205 y_Cases_forget ∈ lw_tbl := wI (i := 305) (by decide +kernel)
theorem ml_Mill_206 : Cond.methodLink "MatchMill" 206 y_Passage_forget ∈ lw_tbl := wI (i := 309) (by decide +kernel)
theorem ml_Passage_32 : Cond.methodLink "MatchMill$Passage" 32 y_ArrayList_clear ∈ lw_tbl := wI (i := 313) (by decide +kernel)
theorem ml_Mill_148 : Cond.methodLink "MatchMill" 148 y_Mill_forgetTree ∈ lw_tbl := wI (i := 317) (by decide +kernel)
theorem ml_Law_68 : Cond.methodLink "MatchMillLaw" 68 y_Law_type ∈ lw_tbl := wI (i := 321) (by decide +kernel)
theorem ml_Law_7 : Cond.methodLink "MatchMillLaw" 7 y_Mill_type ∈ lw_tbl := wI (i := 326) (by decide +kernel)
theorem ml_Mill_49 : Cond.methodLink "MatchMill" 49 y_Types_canBe ∈ lw_tbl := wI (i := 330) (by decide +kernel)
theorem ml_Throwable_1 : Cond.methodLink "java/lang/Throwable" 1 y_Object_init ∈ lw_tbl := wI (i := 359) (by decide +kernel)
theorem ml_Throwable_27 : Cond.methodLink "java/lang/Throwable" 27 (⟨"java/lang/Throwable", "fillInStackTrace", "()Ljava/lang/Throwable;"⟩ : MethodName) ∈ lw_tbl := wI (i := 364) (by decide +kernel)
theorem ml_Throwable_202 : Cond.methodLink "java/lang/Throwable" 202 (⟨"java/lang/Throwable", "fillInStackTrace", "(I)Ljava/lang/Throwable;"⟩ : MethodName) ∈ lw_tbl := wI (i := 370) (by decide +kernel)
theorem ml_Mill_55 : Cond.methodLink "MatchMill" 55 y_IAE_init ∈ lw_tbl := wI (i := 375) (by decide +kernel)
theorem ml_IAE_1 : Cond.methodLink "java/lang/IllegalArgumentException" 1 y_RuntimeException_init ∈ lw_tbl := wI (i := 378) (by decide +kernel)
theorem ml_RuntimeException_1 : Cond.methodLink "java/lang/RuntimeException" 1 y_Exception_init ∈ lw_tbl := wI (i := 381) (by decide +kernel)
theorem ml_Exception_1 : Cond.methodLink "java/lang/Exception" 1 y_Throwable_init ∈ lw_tbl := wI (i := 384) (by decide +kernel)
theorem ml_Mill_60 : Cond.methodLink "MatchMill" 60 y_Types_isTold ∈ lw_tbl := wI (i := 397) (by decide +kernel)
theorem ml_Types_27 : Cond.methodLink "MatchMill$Types" 27 y_Types_canBe ∈ lw_tbl := wI (i := 401) (by decide +kernel)
theorem ml_Mill_65 : Cond.methodLink "MatchMill" 65 y_ISE_init ∈ lw_tbl := wI (i := 411) (by decide +kernel)
theorem ml_ISE_1 : Cond.methodLink "java/lang/IllegalStateException" 1 y_RuntimeException_init ∈ lw_tbl := wI (i := 414) (by decide +kernel)
theorem ml_Mill_66 : Cond.methodLink "MatchMill" 66 y_Types_tell ∈ lw_tbl := wI (i := 417) (by decide +kernel)
theorem ml_Law_77 : Cond.methodLink "MatchMillLaw" 77 y_Law_argument ∈ lw_tbl := wI (i := 421) (by decide +kernel)
theorem ml_Law_17 : Cond.methodLink "MatchMillLaw" 17 y_Mill_argument ∈ lw_tbl := wI (i := 424) (by decide +kernel)
theorem ml_Mill_70 : Cond.methodLink "MatchMill" 70 y_Types_hasConstructor ∈ lw_tbl := wI (i := 428) (by decide +kernel)
theorem ml_Types_31 : Cond.methodLink "MatchMill$Types" 31 y_Types_isTold ∈ lw_tbl := wI (i := 432) (by decide +kernel)
theorem ml_Mill_74 : Cond.methodLink "MatchMill" 74 y_Types_arity ∈ lw_tbl := wI (i := 433) (by decide +kernel)
theorem ml_Types_34 : Cond.methodLink "MatchMill$Types" 34 y_Types_hasConstructor ∈ lw_tbl := wI (i := 437) (by decide +kernel)
theorem ml_Mill_78 : Cond.methodLink "MatchMill" 78 y_Types_addArgument ∈ lw_tbl := wI (i := 438) (by decide +kernel)
theorem ml_Law_81 : Cond.methodLink "MatchMillLaw" 81 y_Law_any ∈ lw_tbl := wI (i := 442) (by decide +kernel)
theorem ml_Law_21 : Cond.methodLink "MatchMillLaw" 21 y_Mill_any ∈ lw_tbl := wI (i := 445) (by decide +kernel)
theorem ml_Mill_84 : Cond.methodLink "MatchMill" 84 y_Term_init ∈ lw_tbl := wI (i := 451) (by decide +kernel)
theorem ml_Term_3 : Cond.methodLink "MatchMill$Term" 3 y_Object_init ∈ lw_tbl := wI (i := 454) (by decide +kernel)
theorem ml_Mill_87 : Cond.methodLink "MatchMill" 87 y_Mill_put ∈ lw_tbl := wI (i := 494) (by decide +kernel)
theorem ml_Mill_207 : Cond.methodLink "MatchMill" 207 y_Pile_isFull ∈ lw_tbl := wI (i := 498) (by decide +kernel)
theorem ml_Mill_210 : Cond.methodLink "MatchMill" 210 y_Pile_lay ∈ lw_tbl := wI (i := 502) (by decide +kernel)
theorem ml_Law_85 : Cond.methodLink "MatchMillLaw" 85 y_Law_number ∈ lw_tbl := wI (i := 506) (by decide +kernel)
theorem ml_Law_25 : Cond.methodLink "MatchMillLaw" 25 y_Mill_number ∈ lw_tbl := wI (i := 509) (by decide +kernel)
theorem ml_Mill_91 : Cond.methodLink "MatchMill" 91 y_Types_isOfNumbers ∈ lw_tbl := wI (i := 513) (by decide +kernel)
theorem ml_Law_89 : Cond.methodLink "MatchMillLaw" 89 y_Law_make ∈ lw_tbl := wI (i := 517) (by decide +kernel)
theorem ml_Law_29 : Cond.methodLink "MatchMillLaw" 29 y_Mill_make ∈ lw_tbl := wI (i := 520) (by decide +kernel)
theorem ml_Mill_98 : Cond.methodLink "MatchMill" 98 y_Types_areArguments ∈ lw_tbl := wI (i := 524) (by decide +kernel)
theorem ml_Types_38 : Cond.methodLink "MatchMill$Types" 38 y_Types_arity ∈ lw_tbl := wI (i := 528) (by decide +kernel)
theorem ml_Types_42 : Cond.methodLink "MatchMill$Types" 42 y_Pile_height ∈ lw_tbl := wI (i := 529) (by decide +kernel)
theorem ml_Types_48 : Cond.methodLink "MatchMill$Types" 48 y_Pile_typeAt ∈ lw_tbl := wI (i := 530) (by decide +kernel)
theorem ml_Pile_21 : Cond.methodLink "MatchMill$Pile" 21 y_Pile_fromTop ∈ lw_tbl := wI (i := 534) (by decide +kernel)
theorem ml_Mill_102 : Cond.methodLink "MatchMill" 102 y_Pile_shareNames ∈ lw_tbl := wI (i := 535) (by decide +kernel)
theorem ml_Mill_105 : Cond.methodLink "MatchMill" 105 y_Pile_sizeOf ∈ lw_tbl := wI (i := 539) (by decide +kernel)
theorem ml_Mill_109 : Cond.methodLink "MatchMill" 109 y_Pile_take ∈ lw_tbl := wI (i := 543) (by decide +kernel)
theorem ml_Pile_34 : Cond.methodLink "MatchMill$Pile" 34 y_Math_min ∈ lw_tbl := wI (i := 547) (by decide +kernel)
theorem ml_Law_92 : Cond.methodLink "MatchMillLaw" 92 y_Law_either ∈ lw_tbl := wI (i := 550) (by decide +kernel)
theorem ml_Law_32 : Cond.methodLink "MatchMillLaw" 32 y_Mill_either ∈ lw_tbl := wI (i := 553) (by decide +kernel)
theorem ml_Mill_117 : Cond.methodLink "MatchMill" 117 y_Pile_areAlike ∈ lw_tbl := wI (i := 557) (by decide +kernel)
theorem ml_Mill_120 : Cond.methodLink "MatchMill" 120 y_Pile_typeAt ∈ lw_tbl := wI (i := 561) (by decide +kernel)
theorem ml_Law_96 : Cond.methodLink "MatchMillLaw" 96 y_Law_name ∈ lw_tbl := wI (i := 562) (by decide +kernel)
theorem ml_Law_36 : Cond.methodLink "MatchMillLaw" 36 y_Mill_name ∈ lw_tbl := wI (i := 565) (by decide +kernel)
theorem ml_Mill_123 : Cond.methodLink "MatchMill" 123 y_Mill_isName ∈ lw_tbl := wI (i := 569) (by decide +kernel)
theorem ml_Mill_130 : Cond.methodLink "MatchMill" 130 y_Term_hasName ∈ lw_tbl := wI (i := 572) (by decide +kernel)
theorem ml_Mill_133 : Cond.methodLink "MatchMill" 133 y_Term_addName ∈ lw_tbl := wI (i := 576) (by decide +kernel)
theorem ml_Term_34 : Cond.methodLink "MatchMill$Term" 34 y_Integer_bitCount ∈ lw_tbl := wI (i := 580) (by decide +kernel)
theorem ml_Law_103 : Cond.methodLink "MatchMillLaw" 103 y_Law_addCase ∈ lw_tbl := wI (i := 586) (by decide +kernel)
theorem ml_Law_39 : Cond.methodLink "MatchMillLaw" 39 y_Mill_addCase ∈ lw_tbl := wI (i := 589) (by decide +kernel)
theorem ml_Mill_144 : Cond.methodLink "MatchMill" 144 y_Cases_accepts ∈ lw_tbl := wI (i := 593) (by decide +kernel)
theorem ml_Cases_28 : Cond.methodLink "MatchMill$Cases" 28 y_Cases_areOf ∈ lw_tbl := wI (i := 597) (by decide +kernel)
theorem ml_Mill_151 : Cond.methodLink "MatchMill" 151 y_Cases_add ∈ lw_tbl := wI (i := 601) (by decide +kernel)
theorem ml_Law_107 : Cond.methodLink "MatchMillLaw" 107 y_Law_build ∈ lw_tbl := wI (i := 605) (by decide +kernel)
theorem ml_Law_43 : Cond.methodLink "MatchMillLaw" 43 y_Mill_build ∈ lw_tbl := wI (i := 609) (by decide +kernel)
theorem ml_Mill_155 : Cond.methodLink "MatchMill" 155 y_Cases_size ∈ lw_tbl := wI (i := 613) (by decide +kernel)
theorem ml_Mill_163 : Cond.methodLink "MatchMill" 163 y_Tree_grow ∈ lw_tbl := wI (i := 614) (by decide +kernel)
theorem ml_Tree_51 : Cond.methodLink "MatchMill$Tree" 51 y_Tree_begin ∈ lw_tbl := wI (i := 618) (by decide +kernel)
theorem ml_Tree_89 : Cond.methodLink "MatchMill$Tree" 89 y_Rows_cutTo ∈ lw_tbl := wI (i := 622) (by decide +kernel)
theorem ml_Rows_22 : Cond.methodLink "MatchMill$Rows" 22 y_Math_min ∈ lw_tbl := wI (i := 626) (by decide +kernel)
theorem ml_Tree_92 : Cond.methodLink "MatchMill$Tree" 92 y_Places_begin ∈ lw_tbl := wI (i := 627) (by decide +kernel)
theorem ml_Places_22 : Cond.methodLink "MatchMill$Places" 22 y_Places_add ∈ lw_tbl := wI (i := 631) (by decide +kernel)
theorem ml_Places_53 : Cond.methodLink "MatchMill$Places" 53 y_ArrayList_size ∈ lw_tbl := wI (i := 635) (by decide +kernel)
theorem ml_Place_3 : Cond.methodLink "MatchMill$Place" 3 y_Object_init ∈ lw_tbl := wI (i := 644) (by decide +kernel)
theorem ml_Places_58 : Cond.methodLink "MatchMill$Places" 58 y_ArrayList_add ∈ lw_tbl := wI (i := 666) (by decide +kernel)
theorem ml_ArrayList_131 : Cond.methodLink "java/util/ArrayList" 131 y_ArrayList_add2 ∈ lw_tbl := wI (i := 670) (by decide +kernel)
theorem ml_ArrayList_129 : Cond.methodLink "java/util/ArrayList" 129 y_ArrayList_grow ∈ lw_tbl := wI (i := 674) (by decide +kernel)
theorem ml_ArrayList_69 : Cond.methodLink "java/util/ArrayList" 69 y_ArrayList_grow2 ∈ lw_tbl := wI (i := 678) (by decide +kernel)
theorem ml_ArrayList_73 : Cond.methodLink "java/util/ArrayList" 73 y_ArraysSupport_newLength ∈ lw_tbl := wI (i := 682) (by decide +kernel)
theorem ml_ArraysSupport_194 : Cond.methodLink "jdk/internal/util/ArraysSupport" 194 y_Math_max ∈ lw_tbl := wI (i := 685) (by decide +kernel)
theorem ml_ArraysSupport_201 : Cond.methodLink "jdk/internal/util/ArraysSupport" 201 y_ArraysSupport_hugeLength ∈ lw_tbl := wI (i := 687) (by decide +kernel)
theorem ml_ArrayList_66 : Cond.methodLink "java/util/ArrayList" 66 y_Arrays_copyOf ∈ lw_tbl := wI (i := 690) (by decide +kernel)
theorem ml_Arrays_86 : Cond.methodLink "java/util/Arrays" 86 (⟨"java/lang/Object", "getClass", "()Ljava/lang/Class;"⟩ : MethodName) ∈ lw_tbl := wI (i := 693) (by decide +kernel)
theorem ml_Arrays_300 : Cond.methodLink "java/util/Arrays" 300 y_Arrays_copyOf2 ∈ lw_tbl := wI (i := 714) (by decide +kernel)
theorem ml_Arrays_304 : Cond.methodLink "java/util/Arrays" 304 y_Math_min ∈ lw_tbl := wI (i := 720) (by decide +kernel)
theorem ml_Arrays_150 : Cond.methodLink "java/util/Arrays" 150 (⟨"java/lang/System", "arraycopy", "(Ljava/lang/Object;ILjava/lang/Object;II)V"⟩ : MethodName) ∈ lw_tbl := wI (i := 721) (by decide +kernel)
theorem ml_ArrayList_79 : Cond.methodLink "java/util/ArrayList" 79 y_Math_max ∈ lw_tbl := wI (i := 724) (by decide +kernel)
theorem ml_Places_26 : Cond.methodLink "MatchMill$Places" 26 y_ArrayList_get ∈ lw_tbl := wI (i := 726) (by decide +kernel)
theorem ml_ArrayList_118 : Cond.methodLink "java/util/ArrayList" 118 y_Objects_checkIndex ∈ lw_tbl := wI (i := 730) (by decide +kernel)
theorem ml_Objects_105 : Cond.methodLink "java/util/Objects" 105 y_Preconditions_checkIndex ∈ lw_tbl := wI (i := 733) (by decide +kernel)
theorem ml_ArrayList_123 : Cond.methodLink "java/util/ArrayList" 123 y_ArrayList_elementData ∈ lw_tbl := wI (i := 736) (by decide +kernel)
theorem ml_Places_61 : Cond.methodLink "MatchMill$Places" 61 y_Place_begin ∈ lw_tbl := wI (i := 740) (by decide +kernel)
theorem ml_Place_15 : Cond.methodLink "MatchMill$Place" 15 y_Place_leave ∈ lw_tbl := wI (i := 744) (by decide +kernel)
theorem ml_Tree_54 : Cond.methodLink "MatchMill$Tree" 54 y_Rows_putCases ∈ lw_tbl := wI (i := 748) (by decide +kernel)
theorem ml_Rows_34 : Cond.methodLink "MatchMill$Rows" 34 y_Cases_size ∈ lw_tbl := wI (i := 752) (by decide +kernel)
theorem ml_Rows_40 : Cond.methodLink "MatchMill$Rows" 40 y_Rows_insert ∈ lw_tbl := wI (i := 753) (by decide +kernel)
theorem ml_Rows_96 : Cond.methodLink "MatchMill$Rows" 96 y_ArrayList_size ∈ lw_tbl := wI (i := 757) (by decide +kernel)
theorem ml_Row_3 : Cond.methodLink "MatchMill$Row" 3 y_Object_init ∈ lw_tbl := wI (i := 763) (by decide +kernel)
theorem ml_Rows_98 : Cond.methodLink "MatchMill$Rows" 98 y_ArrayList_add ∈ lw_tbl := wI (i := 787) (by decide +kernel)
theorem ml_Rows_102 : Cond.methodLink "MatchMill$Rows" 102 y_ArrayList_remove ∈ lw_tbl := wI (i := 788) (by decide +kernel)
theorem ml_ArrayList_144 : Cond.methodLink "java/util/ArrayList" 144 y_ArrayList_fastRemove ∈ lw_tbl := wI (i := 792) (by decide +kernel)
theorem ml_ArrayList_112 : Cond.methodLink "java/util/ArrayList" 112 (⟨"java/lang/System", "arraycopy", "(Ljava/lang/Object;ILjava/lang/Object;II)V"⟩ : MethodName) ∈ lw_tbl := wI (i := 796) (by decide +kernel)
theorem ml_Rows_105 : Cond.methodLink "MatchMill$Rows" 105 y_ArrayList_add3 ∈ lw_tbl := wI (i := 797) (by decide +kernel)
theorem ml_ArrayList_135 : Cond.methodLink "java/util/ArrayList" 135 y_ArrayList_rangeCheckForAdd ∈ lw_tbl := wI (i := 801) (by decide +kernel)
theorem ml_Rows_28 : Cond.methodLink "MatchMill$Rows" 28 y_ArrayList_get ∈ lw_tbl := wI (i := 805) (by decide +kernel)
theorem ml_Rows_44 : Cond.methodLink "MatchMill$Rows" 44 y_Cases_patternOf ∈ lw_tbl := wI (i := 806) (by decide +kernel)
theorem ml_Rows_48 : Cond.methodLink "MatchMill$Rows" 48 y_Row_begin ∈ lw_tbl := wI (i := 810) (by decide +kernel)
theorem ml_Row_28 : Cond.methodLink "MatchMill$Row" 28 y_Arrays_fill ∈ lw_tbl := wI (i := 814) (by decide +kernel)
theorem ml_Rows_52 : Cond.methodLink "MatchMill$Rows" 52 y_Rows_part ∈ lw_tbl := wI (i := 815) (by decide +kernel)
theorem ml_Rows_90 : Cond.methodLink "MatchMill$Rows" 90 y_Row_tidy ∈ lw_tbl := wI (i := 819) (by decide +kernel)
theorem ml_Row_40 : Cond.methodLink "MatchMill$Row" 40 y_Row_bindNames ∈ lw_tbl := wI (i := 823) (by decide +kernel)
theorem ml_Row_47 : Cond.methodLink "MatchMill$Row" 47 y_Row_moveWishes ∈ lw_tbl := wI (i := 827) (by decide +kernel)
theorem ml_Rows_79 : Cond.methodLink "MatchMill$Rows" 79 y_Row_become ∈ lw_tbl := wI (i := 831) (by decide +kernel)
theorem ml_Rows_93 : Cond.methodLink "MatchMill$Rows" 93 y_Row_choose ∈ lw_tbl := wI (i := 835) (by decide +kernel)
theorem ml_Tree_58 : Cond.methodLink "MatchMill$Tree" 58 y_Tree_plant ∈ lw_tbl := wI (i := 839) (by decide +kernel)
theorem ml_Tree_122 : Cond.methodLink "MatchMill$Tree" 122 y_Rows_size ∈ lw_tbl := wI (i := 843) (by decide +kernel)
theorem ml_Tree_133 : Cond.methodLink "MatchMill$Tree" 133 y_Rows_rowAt ∈ lw_tbl := wI (i := 847) (by decide +kernel)
theorem ml_Tree_158 : Cond.methodLink "MatchMill$Tree" 158 y_Row_hasWishes ∈ lw_tbl := wI (i := 851) (by decide +kernel)
theorem ml_Tree_162 : Cond.methodLink "MatchMill$Tree" 162 y_Tree_ask ∈ lw_tbl := wI (i := 855) (by decide +kernel)
theorem ml_Tree_185 : Cond.methodLink "MatchMill$Tree" 185 y_Tree_nextQuestion ∈ lw_tbl := wI (i := 859) (by decide +kernel)
theorem ml_Tree_227 : Cond.methodLink "MatchMill$Tree" 227 y_ArrayList_size ∈ lw_tbl := wI (i := 863) (by decide +kernel)
theorem ml_Question_1 : Cond.methodLink "MatchMill$Question" 1 y_Object_init ∈ lw_tbl := wI (i := 869) (by decide +kernel)
theorem ml_Tree_229 : Cond.methodLink "MatchMill$Tree" 229 y_ArrayList_add ∈ lw_tbl := wI (i := 914) (by decide +kernel)
theorem ml_Tree_63 : Cond.methodLink "MatchMill$Tree" 63 y_ArrayList_get ∈ lw_tbl := wI (i := 915) (by decide +kernel)
theorem ml_Tree_199 : Cond.methodLink "MatchMill$Tree" 199 y_Places_distanceOf ∈ lw_tbl := wI (i := 916) (by decide +kernel)
theorem ml_Tree_206 : Cond.methodLink "MatchMill$Tree" 206 y_Places_size ∈ lw_tbl := wI (i := 920) (by decide +kernel)
theorem ml_Tree_215 : Cond.methodLink "MatchMill$Tree" 215 y_Tree_keepNumbers ∈ lw_tbl := wI (i := 924) (by decide +kernel)
theorem ml_Tree_233 : Cond.methodLink "MatchMill$Tree" 233 y_Row_wishFor ∈ lw_tbl := wI (i := 928) (by decide +kernel)
theorem ml_Tree_239 : Cond.methodLink "MatchMill$Tree" 239 y_Tree_keepNumber ∈ lw_tbl := wI (i := 932) (by decide +kernel)
theorem ml_Tree_219 : Cond.methodLink "MatchMill$Tree" 219 y_Types_constructorsOf ∈ lw_tbl := wI (i := 936) (by decide +kernel)
theorem ml_Tree_222 : Cond.methodLink "MatchMill$Tree" 222 y_Math_max ∈ lw_tbl := wI (i := 940) (by decide +kernel)
theorem ml_Tree_168 : Cond.methodLink "MatchMill$Tree" 168 y_Cases_isGuarded ∈ lw_tbl := wI (i := 941) (by decide +kernel)
theorem ml_Tree_174 : Cond.methodLink "MatchMill$Tree" 174 y_Rows_leaveOut ∈ lw_tbl := wI (i := 945) (by decide +kernel)
theorem ml_Rows_111 : Cond.methodLink "MatchMill$Rows" 111 y_ArrayList_set ∈ lw_tbl := wI (i := 949) (by decide +kernel)
theorem ml_Tree_178 : Cond.methodLink "MatchMill$Tree" 178 y_Tree_fail ∈ lw_tbl := wI (i := 953) (by decide +kernel)
theorem ml_Tree_181 : Cond.methodLink "MatchMill$Tree" 181 y_Places_tellAll ∈ lw_tbl := wI (i := 957) (by decide +kernel)
theorem ml_Places_64 : Cond.methodLink "MatchMill$Places" 64 y_Places_tell ∈ lw_tbl := wI (i := 961) (by decide +kernel)
theorem ml_Tree_78 : Cond.methodLink "MatchMill$Tree" 78 y_Places_leave ∈ lw_tbl := wI (i := 966) (by decide +kernel)
theorem ml_Places_50 : Cond.methodLink "MatchMill$Places" 50 y_Place_leave ∈ lw_tbl := wI (i := 970) (by decide +kernel)
theorem ml_Tree_85 : Cond.methodLink "MatchMill$Tree" 85 y_Tree_follow ∈ lw_tbl := wI (i := 971) (by decide +kernel)
theorem ml_Tree_111 : Cond.methodLink "MatchMill$Tree" 111 y_Tree_meaning ∈ lw_tbl := wI (i := 975) (by decide +kernel)
theorem ml_Tree_115 : Cond.methodLink "MatchMill$Tree" 115 y_Tree_arityBehind ∈ lw_tbl := wI (i := 979) (by decide +kernel)
theorem ml_Tree_152 : Cond.methodLink "MatchMill$Tree" 152 y_Types_arity ∈ lw_tbl := wI (i := 983) (by decide +kernel)
theorem ml_Tree_118 : Cond.methodLink "MatchMill$Tree" 118 y_Places_answer ∈ lw_tbl := wI (i := 984) (by decide +kernel)
theorem ml_Places_46 : Cond.methodLink "MatchMill$Places" 46 y_Place_answer ∈ lw_tbl := wI (i := 988) (by decide +kernel)
theorem ml_Tree_126 : Cond.methodLink "MatchMill$Tree" 126 y_Rows_putAnswer ∈ lw_tbl := wI (i := 992) (by decide +kernel)
theorem ml_Rows_66 : Cond.methodLink "MatchMill$Rows" 66 y_Row_wishFor ∈ lw_tbl := wI (i := 996) (by decide +kernel)
theorem ml_Rows_86 : Cond.methodLink "MatchMill$Rows" 86 y_Row_open ∈ lw_tbl := wI (i := 997) (by decide +kernel)
theorem ml_Mill_169 : Cond.methodLink "MatchMill" 169 y_UOE_init ∈ lw_tbl := wI (i := 1010) (by decide +kernel)
theorem ml_UOE_1 : Cond.methodLink "java/lang/UnsupportedOperationException" 1 y_RuntimeException_init ∈ lw_tbl := wI (i := 1013) (by decide +kernel)
theorem ml_Mill_170 : Cond.methodLink "MatchMill" 170 y_Tree_size ∈ lw_tbl := wI (i := 1016) (by decide +kernel)
theorem ml_Law_110 : Cond.methodLink "MatchMillLaw" 110 y_Law_match ∈ lw_tbl := wI (i := 1020) (by decide +kernel)
theorem ml_Law_48 : Cond.methodLink "MatchMillLaw" 48 y_Mill_match ∈ lw_tbl := wI (i := 1023) (by decide +kernel)
theorem ml_Mill_174 : Cond.methodLink "MatchMill" 174 y_Cases_areOf ∈ lw_tbl := wI (i := 1027) (by decide +kernel)
theorem ml_Mill_177 : Cond.methodLink "MatchMill" 177 y_Tree_lead ∈ lw_tbl := wI (i := 1028) (by decide +kernel)
theorem ml_Tree_242 : Cond.methodLink "MatchMill$Tree" 242 y_Passage_begin ∈ lw_tbl := wI (i := 1032) (by decide +kernel)
theorem ml_Passage_35 : Cond.methodLink "MatchMill$Passage" 35 y_Passage_forget ∈ lw_tbl := wI (i := 1036) (by decide +kernel)
theorem ml_Passage_38 : Cond.methodLink "MatchMill$Passage" 38 y_ArrayList_add ∈ lw_tbl := wI (i := 1037) (by decide +kernel)
theorem ml_Tree_247 : Cond.methodLink "MatchMill$Tree" 247 y_Tree_firstHeld ∈ lw_tbl := wI (i := 1038) (by decide +kernel)
theorem ml_Tree_251 : Cond.methodLink "MatchMill$Tree" 251 y_Tree_questionBehind ∈ lw_tbl := wI (i := 1042) (by decide +kernel)
theorem ml_Tree_254 : Cond.methodLink "MatchMill$Tree" 254 y_Passage_meet ∈ lw_tbl := wI (i := 1046) (by decide +kernel)
theorem ml_Passage_42 : Cond.methodLink "MatchMill$Passage" 42 y_ArrayList_get ∈ lw_tbl := wI (i := 1050) (by decide +kernel)
theorem ml_Tree_258 : Cond.methodLink "MatchMill$Tree" 258 y_Tree_answerFor ∈ lw_tbl := wI (i := 1051) (by decide +kernel)
theorem ml_Tree_262 : Cond.methodLink "MatchMill$Tree" 262 y_Passage_bind ∈ lw_tbl := wI (i := 1055) (by decide +kernel)
theorem ml_Passage_54 : Cond.methodLink "MatchMill$Passage" 54 y_ArrayList_size ∈ lw_tbl := wI (i := 1059) (by decide +kernel)
theorem ml_Law_117 : Cond.methodLink "MatchMillLaw" 117 y_Law_bound ∈ lw_tbl := wI (i := 1060) (by decide +kernel)
theorem ml_Law_51 : Cond.methodLink "MatchMillLaw" 51 y_Mill_bound ∈ lw_tbl := wI (i := 1063) (by decide +kernel)
theorem ml_Mill_184 : Cond.methodLink "MatchMill" 184 y_Passage_lengthOf ∈ lw_tbl := wI (i := 1067) (by decide +kernel)
theorem ml_Law_120 : Cond.methodLink "MatchMillLaw" 120 y_Law_boundAt ∈ lw_tbl := wI (i := 1071) (by decide +kernel)
theorem ml_Law_54 : Cond.methodLink "MatchMillLaw" 54 y_Mill_boundAt ∈ lw_tbl := wI (i := 1074) (by decide +kernel)
theorem ml_Mill_187 : Cond.methodLink "MatchMill" 187 y_Passage_toldOf ∈ lw_tbl := wI (i := 1078) (by decide +kernel)
theorem ml_Passage_60 : Cond.methodLink "MatchMill$Passage" 60 y_Term_partAt ∈ lw_tbl := wI (i := 1082) (by decide +kernel)
theorem ml_Law_132 : Cond.methodLink "MatchMillLaw" 132 y_Law_question ∈ lw_tbl := wI (i := 1086) (by decide +kernel)
theorem ml_Law_58 : Cond.methodLink "MatchMillLaw" 58 y_Mill_question ∈ lw_tbl := wI (i := 1089) (by decide +kernel)
theorem ml_Mill_196 : Cond.methodLink "MatchMill" 196 y_Tree_factOf ∈ lw_tbl := wI (i := 1093) (by decide +kernel)
theorem ml_Law_135 : Cond.methodLink "MatchMillLaw" 135 y_Law_about ∈ lw_tbl := wI (i := 1097) (by decide +kernel)
theorem ml_Law_61 : Cond.methodLink "MatchMillLaw" 61 y_Mill_about ∈ lw_tbl := wI (i := 1100) (by decide +kernel)
theorem ml_Mill_199 : Cond.methodLink "MatchMill" 199 y_Tree_total ∈ lw_tbl := wI (i := 1104) (by decide +kernel)
theorem ml_Law_67 : Cond.methodLink "MatchMillLaw" 67 y_Model_init ∈ lw_tbl := wI (i := 1110) (by decide +kernel)
theorem ml_Model_1 : Cond.methodLink "MatchMillModel" 1 y_Object_init ∈ lw_tbl := wI (i := 1113) (by decide +kernel)
theorem ml_Model_135 : Cond.methodLink "MatchMillModel" 135 y_Model_forget ∈ lw_tbl := wI (i := 1118) (by decide +kernel)
theorem ml_Law_74 : Cond.methodLink "MatchMillLaw" 74 y_Model_thrown ∈ lw_tbl := wI (i := 1302) (by decide +kernel)
theorem ml_Law_73 : Cond.methodLink "MatchMillLaw" 73 y_Model_type ∈ lw_tbl := wI (i := 1306) (by decide +kernel)
theorem ml_Model_153 : Cond.methodLink "MatchMillModel" 153 y_Model_refuses ∈ lw_tbl := wI (i := 1310) (by decide +kernel)
theorem ml_Law_80 : Cond.methodLink "MatchMillLaw" 80 y_Model_argument ∈ lw_tbl := wI (i := 1314) (by decide +kernel)
theorem ml_Model_156 : Cond.methodLink "MatchMillModel" 156 y_Model_isMaker ∈ lw_tbl := wI (i := 1318) (by decide +kernel)
theorem ml_Model_145 : Cond.methodLink "MatchMillModel" 145 y_Model_isType ∈ lw_tbl := wI (i := 1322) (by decide +kernel)
theorem ml_Law_84 : Cond.methodLink "MatchMillLaw" 84 y_Model_any ∈ lw_tbl := wI (i := 1326) (by decide +kernel)
theorem ml_Model_169 : Cond.methodLink "MatchMillModel" 169 y_Model_node ∈ lw_tbl := wI (i := 1330) (by decide +kernel)
theorem ml_Model_173 : Cond.methodLink "MatchMillModel" 173 y_Model_push ∈ lw_tbl := wI (i := 1334) (by decide +kernel)
theorem ml_Law_88 : Cond.methodLink "MatchMillLaw" 88 y_Model_number ∈ lw_tbl := wI (i := 1338) (by decide +kernel)
theorem ml_Model_177 : Cond.methodLink "MatchMillModel" 177 y_Model_height ∈ lw_tbl := wI (i := 1342) (by decide +kernel)
theorem ml_Law_91 : Cond.methodLink "MatchMillLaw" 91 y_Model_make ∈ lw_tbl := wI (i := 1346) (by decide +kernel)
theorem ml_Law_95 : Cond.methodLink "MatchMillLaw" 95 y_Model_either ∈ lw_tbl := wI (i := 1350) (by decide +kernel)
theorem ml_Law_98 : Cond.methodLink "MatchMillLaw" 98 y_Model_name ∈ lw_tbl := wI (i := 1354) (by decide +kernel)
theorem ml_Law_102 : Cond.methodLink "MatchMillLaw" 102 y_Model_pop ∈ lw_tbl := wI (i := 1358) (by decide +kernel)
theorem ml_Law_106 : Cond.methodLink "MatchMillLaw" 106 y_Model_addCase ∈ lw_tbl := wI (i := 1362) (by decide +kernel)
theorem ml_Law_109 : Cond.methodLink "MatchMillLaw" 109 y_Model_build ∈ lw_tbl := wI (i := 1366) (by decide +kernel)
theorem ml_Model_246 : Cond.methodLink "MatchMillModel" 246 y_Model_firstRows ∈ lw_tbl := wI (i := 1370) (by decide +kernel)
theorem ml_Model_198 : Cond.methodLink "MatchMillModel" 198 y_Model_settle ∈ lw_tbl := wI (i := 1375) (by decide +kernel)
theorem ml_Model_188 : Cond.methodLink "MatchMillModel" 188 y_Model_copyRow ∈ lw_tbl := wI (i := 1379) (by decide +kernel)
theorem ml_Model_249 : Cond.methodLink "MatchMillModel" 249 y_Model_tellMissing ∈ lw_tbl := wI (i := 1383) (by decide +kernel)
theorem ml_Model_252 : Cond.methodLink "MatchMillModel" 252 y_Model_otherRows ∈ lw_tbl := wI (i := 1387) (by decide +kernel)
theorem ml_Model_255 : Cond.methodLink "MatchMillModel" 255 y_Model_asks ∈ lw_tbl := wI (i := 1391) (by decide +kernel)
theorem ml_Model_261 : Cond.methodLink "MatchMillModel" 261 y_Model_answers ∈ lw_tbl := wI (i := 1395) (by decide +kernel)
theorem ml_Model_217 : Cond.methodLink "MatchMillModel" 217 y_Model_above ∈ lw_tbl := wI (i := 1399) (by decide +kernel)
theorem ml_Model_205 : Cond.methodLink "MatchMillModel" 205 y_Model_wish ∈ lw_tbl := wI (i := 1403) (by decide +kernel)
theorem ml_Model_258 : Cond.methodLink "MatchMillModel" 258 y_Model_answersNext ∈ lw_tbl := wI (i := 1407) (by decide +kernel)
theorem ml_Model_264 : Cond.methodLink "MatchMillModel" 264 y_Model_answerRows ∈ lw_tbl := wI (i := 1411) (by decide +kernel)
theorem ml_Model_209 : Cond.methodLink "MatchMillModel" 209 y_Model_opens ∈ lw_tbl := wI (i := 1415) (by decide +kernel)
theorem ml_Model_213 : Cond.methodLink "MatchMillModel" 213 y_Model_inside ∈ lw_tbl := wI (i := 1419) (by decide +kernel)
theorem ml_Model_268 : Cond.methodLink "MatchMillModel" 268 y_Model_other ∈ lw_tbl := wI (i := 1423) (by decide +kernel)
theorem ml_Model_221 : Cond.methodLink "MatchMillModel" 221 y_Model_isWished ∈ lw_tbl := wI (i := 1427) (by decide +kernel)
theorem ml_Law_112 : Cond.methodLink "MatchMillLaw" 112 y_Model_match ∈ lw_tbl := wI (i := 1431) (by decide +kernel)
theorem ml_Model_271 : Cond.methodLink "MatchMillModel" 271 y_Model_below ∈ lw_tbl := wI (i := 1435) (by decide +kernel)
theorem ml_Law_116 : Cond.methodLink "MatchMillLaw" 116 y_Model_asked ∈ lw_tbl := wI (i := 1439) (by decide +kernel)
theorem ml_Law_119 : Cond.methodLink "MatchMillLaw" 119 y_Model_bound ∈ lw_tbl := wI (i := 1443) (by decide +kernel)
theorem ml_Model_278 : Cond.methodLink "MatchMillModel" 278 y_Model_tell ∈ lw_tbl := wI (i := 1447) (by decide +kernel)
theorem ml_Law_123 : Cond.methodLink "MatchMillLaw" 123 y_Model_boundAt ∈ lw_tbl := wI (i := 1451) (by decide +kernel)
theorem ml_Law_127 : Cond.methodLink "MatchMillLaw" 127 y_Model_missing ∈ lw_tbl := wI (i := 1455) (by decide +kernel)
theorem ml_Law_131 : Cond.methodLink "MatchMillLaw" 131 y_Model_unused ∈ lw_tbl := wI (i := 1459) (by decide +kernel)
theorem ml_Law_134 : Cond.methodLink "MatchMillLaw" 134 y_Model_question ∈ lw_tbl := wI (i := 1463) (by decide +kernel)
theorem ml_Law_137 : Cond.methodLink "MatchMillLaw" 137 y_Model_about ∈ lw_tbl := wI (i := 1467) (by decide +kernel)
theorem ml_Law_141 : Cond.methodLink "MatchMillLaw" 141 y_Model_clear ∈ lw_tbl := wI (i := 1471) (by decide +kernel)
theorem ml_Mill_14 : Cond.methodLinkNest "MatchMill" 14 y_Cases_init "MatchMill" ∈ lw_tbl := wI (i := 60) (by decide +kernel)
theorem ml_Mill_25 : Cond.methodLinkNest "MatchMill" 25 y_Pile_init "MatchMill" ∈ lw_tbl := wI (i := 79) (by decide +kernel)
theorem ml_Tree_11 : Cond.methodLinkNest "MatchMill$Tree" 11 y_Rows_init "MatchMill" ∈ lw_tbl := wI (i := 99) (by decide +kernel)
theorem ml_Tree_20 : Cond.methodLinkNest "MatchMill$Tree" 20 y_Places_init "MatchMill" ∈ lw_tbl := wI (i := 138) (by decide +kernel)
theorem ml_Mill_44 : Cond.methodLinkNest "MatchMill" 44 y_Passage_init "MatchMill" ∈ lw_tbl := wI (i := 198) (by decide +kernel)
theorem ml_Places_57 : Cond.methodLinkNest "MatchMill$Places" 57 y_Place_init "MatchMill" ∈ lw_tbl := wI (i := 641) (by decide +kernel)
theorem ml_Rows_97 : Cond.methodLinkNest "MatchMill$Rows" 97 y_Row_init "MatchMill" ∈ lw_tbl := wI (i := 760) (by decide +kernel)
theorem ml_Tree_228 : Cond.methodLinkNest "MatchMill$Tree" 228 y_Question_init "MatchMill" ∈ lw_tbl := wI (i := 866) (by decide +kernel)
theorem fl_Types_9 : gFld "MatchMill$Types" 9 T_Types 0 := ⟨"MatchMill$Types", wI (i := 47) (by decide +kernel), Or.inl rfl⟩
theorem fl_Types_15 : gFld "MatchMill$Types" 15 T_Types 1 := ⟨"MatchMill$Types", wI (i := 48) (by decide +kernel), Or.inl rfl⟩
theorem fl_Types_18 : gFld "MatchMill$Types" 18 T_Types 2 := ⟨"MatchMill$Types", wI (i := 49) (by decide +kernel), Or.inl rfl⟩
theorem fl_Cases_11 : gFld "MatchMill$Cases" 11 T_Cases 0 := ⟨"MatchMill$Cases", wI (i := 66) (by decide +kernel), Or.inl rfl⟩
theorem fl_Cases_17 : gFld "MatchMill$Cases" 17 T_Cases 1 := ⟨"MatchMill$Cases", wI (i := 67) (by decide +kernel), Or.inl rfl⟩
theorem fl_Cases_21 : gFld "MatchMill$Cases" 21 T_Cases 2 := ⟨"MatchMill$Cases", wI (i := 68) (by decide +kernel), Or.inl rfl⟩
theorem fl_Pile_11 : gFld "MatchMill$Pile" 11 T_Pile 0 := ⟨"MatchMill$Pile", wI (i := 84) (by decide +kernel), Or.inl rfl⟩
theorem fl_Pile_17 : gFld "MatchMill$Pile" 17 T_Pile 1 := ⟨"MatchMill$Pile", wI (i := 85) (by decide +kernel), Or.inl rfl⟩
theorem fl_ArrayList_9 : gFld "java/util/ArrayList" 9 T_ArrayList 1 := ⟨"java/util/ArrayList", wI (i := 117) (by decide +kernel), Or.inl rfl⟩
theorem fl_ArrayList_48 : gFld "java/util/ArrayList" 48 T_ArrayList 2 := ⟨"java/util/ArrayList", wI (i := 118) (by decide +kernel), Or.inl rfl⟩
theorem fl_AbstractList_7 : gFld "java/util/AbstractList" 7 T_ArrayList 0 := ⟨"java/util/AbstractList", wI (i := 119) (by decide +kernel), Or.inl rfl⟩
theorem fl_ArrayList_63 : gFld "java/util/ArrayList" 63 T_ArrayList 0 := ⟨"java/util/ArrayList", wI (i := 120) (by decide +kernel), Or.inr (wI (i := 121) (by decide +kernel))⟩
theorem fl_Rows_12 : gFld "MatchMill$Rows" 12 T_Rows 0 := ⟨"MatchMill$Rows", wI (i := 129) (by decide +kernel), Or.inl rfl⟩
theorem fl_Rows_18 : gFld "MatchMill$Rows" 18 T_Rows 1 := ⟨"MatchMill$Rows", wI (i := 130) (by decide +kernel), Or.inl rfl⟩
theorem fl_Places_12 : gFld "MatchMill$Places" 12 T_Places 0 := ⟨"MatchMill$Places", wI (i := 144) (by decide +kernel), Or.inl rfl⟩
theorem fl_Places_18 : gFld "MatchMill$Places" 18 T_Places 1 := ⟨"MatchMill$Places", wI (i := 145) (by decide +kernel), Or.inl rfl⟩
theorem fl_Tree_39 : gFld "MatchMill$Tree" 39 T_Tree 0 := ⟨"MatchMill$Tree", wI (i := 153) (by decide +kernel), Or.inl rfl⟩
theorem fl_Tree_43 : gFld "MatchMill$Tree" 43 T_Tree 1 := ⟨"MatchMill$Tree", wI (i := 154) (by decide +kernel), Or.inl rfl⟩
theorem fl_Tree_12 : gFld "MatchMill$Tree" 12 T_Tree 2 := ⟨"MatchMill$Tree", wI (i := 155) (by decide +kernel), Or.inl rfl⟩
theorem fl_Tree_21 : gFld "MatchMill$Tree" 21 T_Tree 3 := ⟨"MatchMill$Tree", wI (i := 156) (by decide +kernel), Or.inl rfl⟩
theorem fl_Tree_28 : gFld "MatchMill$Tree" 28 T_Tree 4 := ⟨"MatchMill$Tree", wI (i := 157) (by decide +kernel), Or.inl rfl⟩
theorem fl_Tree_32 : gFld "MatchMill$Tree" 32 T_Tree 5 := ⟨"MatchMill$Tree", wI (i := 158) (by decide +kernel), Or.inl rfl⟩
theorem fl_Tree_36 : gFld "MatchMill$Tree" 36 T_Tree 6 := ⟨"MatchMill$Tree", wI (i := 159) (by decide +kernel), Or.inl rfl⟩
theorem fl_Tree_47 : gFld "MatchMill$Tree" 47 T_Tree 7 := ⟨"MatchMill$Tree", wI (i := 160) (by decide +kernel), Or.inl rfl⟩
theorem fl_Tree_93 : gFld "MatchMill$Tree" 93 T_Tree 8 := ⟨"MatchMill$Tree", wI (i := 161) (by decide +kernel), Or.inl rfl⟩
theorem fl_Tree_96 : gFld "MatchMill$Tree" 96 T_Tree 9 := ⟨"MatchMill$Tree", wI (i := 162) (by decide +kernel), Or.inl rfl⟩
theorem fl_Tree_99 : gFld "MatchMill$Tree" 99 T_Tree 10 := ⟨"MatchMill$Tree", wI (i := 163) (by decide +kernel), Or.inl rfl⟩
theorem fl_Tree_102 : gFld "MatchMill$Tree" 102 T_Tree 11 := ⟨"MatchMill$Tree", wI (i := 164) (by decide +kernel), Or.inl rfl⟩
theorem fl_Tree_105 : gFld "MatchMill$Tree" 105 T_Tree 12 := ⟨"MatchMill$Tree", wI (i := 165) (by decide +kernel), Or.inl rfl⟩
theorem fl_Tree_108 : gFld "MatchMill$Tree" 108 T_Tree 13 := ⟨"MatchMill$Tree", wI (i := 166) (by decide +kernel), Or.inl rfl⟩
theorem fl_Passage_9 : gFld "MatchMill$Passage" 9 T_Passage 0 := ⟨"MatchMill$Passage", wI (i := 205) (by decide +kernel), Or.inl rfl⟩
theorem fl_Passage_17 : gFld "MatchMill$Passage" 17 T_Passage 1 := ⟨"MatchMill$Passage", wI (i := 206) (by decide +kernel), Or.inl rfl⟩
theorem fl_Passage_24 : gFld "MatchMill$Passage" 24 T_Passage 2 := ⟨"MatchMill$Passage", wI (i := 207) (by decide +kernel), Or.inl rfl⟩
theorem fl_Passage_28 : gFld "MatchMill$Passage" 28 T_Passage 3 := ⟨"MatchMill$Passage", wI (i := 208) (by decide +kernel), Or.inl rfl⟩
theorem fl_Mill_15 : gFld "MatchMill" 15 T_Mill 0 := ⟨"MatchMill", wI (i := 218) (by decide +kernel), Or.inl rfl⟩
theorem fl_Mill_26 : gFld "MatchMill" 26 T_Mill 1 := ⟨"MatchMill", wI (i := 219) (by decide +kernel), Or.inl rfl⟩
theorem fl_Mill_30 : gFld "MatchMill" 30 T_Mill 2 := ⟨"MatchMill", wI (i := 220) (by decide +kernel), Or.inl rfl⟩
theorem fl_Mill_19 : gFld "MatchMill" 19 T_Mill 3 := ⟨"MatchMill", wI (i := 221) (by decide +kernel), Or.inl rfl⟩
theorem fl_Mill_38 : gFld "MatchMill" 38 T_Mill 4 := ⟨"MatchMill", wI (i := 222) (by decide +kernel), Or.inl rfl⟩
theorem fl_Mill_45 : gFld "MatchMill" 45 T_Mill 5 := ⟨"MatchMill", wI (i := 223) (by decide +kernel), Or.inl rfl⟩
theorem fl_Mill_56 : gFld "MatchMill" 56 T_Mill 6 := ⟨"MatchMill", wI (i := 224) (by decide +kernel), Or.inl rfl⟩
theorem fl_Mill_157 : gFld "MatchMill" 157 T_Mill 7 := ⟨"MatchMill", wI (i := 225) (by decide +kernel), Or.inl rfl⟩
theorem fl_Mill_160 : gFld "MatchMill" 160 T_Mill 8 := ⟨"MatchMill", wI (i := 226) (by decide +kernel), Or.inl rfl⟩
theorem fl_Term_9 : gFld "MatchMill$Term" 9 T_Term 0 := ⟨"MatchMill$Term", wI (i := 455) (by decide +kernel), Or.inl rfl⟩
theorem fl_Cases_25 : gFld "MatchMill$Cases" 25 T_Term 0 := ⟨"MatchMill$Term", wI (i := 456) (by decide +kernel), Or.inl rfl⟩
theorem fl_Pile_25 : gFld "MatchMill$Pile" 25 T_Term 0 := ⟨"MatchMill$Term", wI (i := 457) (by decide +kernel), Or.inl rfl⟩
theorem fl_Tree_147 : gFld "MatchMill$Tree" 147 T_Term 0 := ⟨"MatchMill$Term", wI (i := 458) (by decide +kernel), Or.inl rfl⟩
theorem fl_Mill_171 : gFld "MatchMill" 171 T_Term 0 := ⟨"MatchMill$Term", wI (i := 459) (by decide +kernel), Or.inl rfl⟩
theorem fl_Term_15 : gFld "MatchMill$Term" 15 T_Term 1 := ⟨"MatchMill$Term", wI (i := 460) (by decide +kernel), Or.inl rfl⟩
theorem fl_Row_44 : gFld "MatchMill$Row" 44 T_Term 1 := ⟨"MatchMill$Term", wI (i := 461) (by decide +kernel), Or.inl rfl⟩
theorem fl_Passage_64 : gFld "MatchMill$Passage" 64 T_Term 1 := ⟨"MatchMill$Term", wI (i := 462) (by decide +kernel), Or.inl rfl⟩
theorem fl_Tree_209 : gFld "MatchMill$Tree" 209 T_Term 1 := ⟨"MatchMill$Term", wI (i := 463) (by decide +kernel), Or.inl rfl⟩
theorem fl_Term_18 : gFld "MatchMill$Term" 18 T_Term 2 := ⟨"MatchMill$Term", wI (i := 464) (by decide +kernel), Or.inl rfl⟩
theorem fl_Rows_74 : gFld "MatchMill$Rows" 74 T_Term 2 := ⟨"MatchMill$Term", wI (i := 465) (by decide +kernel), Or.inl rfl⟩
theorem fl_Passage_67 : gFld "MatchMill$Passage" 67 T_Term 2 := ⟨"MatchMill$Term", wI (i := 466) (by decide +kernel), Or.inl rfl⟩
theorem fl_Tree_236 : gFld "MatchMill$Tree" 236 T_Term 2 := ⟨"MatchMill$Term", wI (i := 467) (by decide +kernel), Or.inl rfl⟩
theorem fl_Term_21 : gFld "MatchMill$Term" 21 T_Term 3 := ⟨"MatchMill$Term", wI (i := 468) (by decide +kernel), Or.inl rfl⟩
theorem fl_Passage_46 : gFld "MatchMill$Passage" 46 T_Term 3 := ⟨"MatchMill$Term", wI (i := 469) (by decide +kernel), Or.inl rfl⟩
theorem fl_Row_50 : gFld "MatchMill$Row" 50 T_Term 3 := ⟨"MatchMill$Term", wI (i := 470) (by decide +kernel), Or.inl rfl⟩
theorem fl_Term_25 : gFld "MatchMill$Term" 25 T_Term 4 := ⟨"MatchMill$Term", wI (i := 471) (by decide +kernel), Or.inl rfl⟩
theorem fl_Passage_58 : gFld "MatchMill$Passage" 58 T_Term 4 := ⟨"MatchMill$Term", wI (i := 472) (by decide +kernel), Or.inl rfl⟩
theorem fl_Mill_140 : gFld "MatchMill" 140 T_Term 4 := ⟨"MatchMill$Term", wI (i := 473) (by decide +kernel), Or.inl rfl⟩
theorem fl_Pile_37 : gFld "MatchMill$Pile" 37 T_Term 4 := ⟨"MatchMill$Term", wI (i := 474) (by decide +kernel), Or.inl rfl⟩
theorem fl_Term_31 : gFld "MatchMill$Term" 31 T_Term 5 := ⟨"MatchMill$Term", wI (i := 475) (by decide +kernel), Or.inl rfl⟩
theorem fl_Row_37 : gFld "MatchMill$Row" 37 T_Term 5 := ⟨"MatchMill$Term", wI (i := 476) (by decide +kernel), Or.inl rfl⟩
theorem fl_Term_28 : gFld "MatchMill$Term" 28 T_Term 6 := ⟨"MatchMill$Term", wI (i := 477) (by decide +kernel), Or.inl rfl⟩
theorem fl_Pile_40 : gFld "MatchMill$Pile" 40 T_Term 6 := ⟨"MatchMill$Term", wI (i := 478) (by decide +kernel), Or.inl rfl⟩
theorem fl_Place_9 : gFld "MatchMill$Place" 9 T_Place 0 := ⟨"MatchMill$Place", wI (i := 645) (by decide +kernel), Or.inl rfl⟩
theorem fl_Places_32 : gFld "MatchMill$Places" 32 T_Place 0 := ⟨"MatchMill$Place", wI (i := 646) (by decide +kernel), Or.inl rfl⟩
theorem fl_Place_18 : gFld "MatchMill$Place" 18 T_Place 1 := ⟨"MatchMill$Place", wI (i := 647) (by decide +kernel), Or.inl rfl⟩
theorem fl_Places_68 : gFld "MatchMill$Places" 68 T_Place 1 := ⟨"MatchMill$Place", wI (i := 648) (by decide +kernel), Or.inl rfl⟩
theorem fl_Place_21 : gFld "MatchMill$Place" 21 T_Place 2 := ⟨"MatchMill$Place", wI (i := 649) (by decide +kernel), Or.inl rfl⟩
theorem fl_Places_71 : gFld "MatchMill$Places" 71 T_Place 2 := ⟨"MatchMill$Place", wI (i := 650) (by decide +kernel), Or.inl rfl⟩
theorem fl_Place_24 : gFld "MatchMill$Place" 24 T_Place 3 := ⟨"MatchMill$Place", wI (i := 651) (by decide +kernel), Or.inl rfl⟩
theorem fl_Places_77 : gFld "MatchMill$Places" 77 T_Place 3 := ⟨"MatchMill$Place", wI (i := 652) (by decide +kernel), Or.inl rfl⟩
theorem fl_Place_27 : gFld "MatchMill$Place" 27 T_Place 4 := ⟨"MatchMill$Place", wI (i := 653) (by decide +kernel), Or.inl rfl⟩
theorem fl_Places_74 : gFld "MatchMill$Places" 74 T_Place 4 := ⟨"MatchMill$Place", wI (i := 654) (by decide +kernel), Or.inl rfl⟩
theorem fl_Row_9 : gFld "MatchMill$Row" 9 T_Row 0 := ⟨"MatchMill$Row", wI (i := 765) (by decide +kernel), Or.inl rfl⟩
theorem fl_Tree_197 : gFld "MatchMill$Tree" 197 T_Row 0 := ⟨"MatchMill$Row", wI (i := 766) (by decide +kernel), Or.inl rfl⟩
theorem fl_Row_17 : gFld "MatchMill$Row" 17 T_Row 1 := ⟨"MatchMill$Row", wI (i := 767) (by decide +kernel), Or.inl rfl⟩
theorem fl_Tree_141 : gFld "MatchMill$Tree" 141 T_Row 1 := ⟨"MatchMill$Row", wI (i := 768) (by decide +kernel), Or.inl rfl⟩
theorem fl_Rows_70 : gFld "MatchMill$Rows" 70 T_Row 1 := ⟨"MatchMill$Row", wI (i := 769) (by decide +kernel), Or.inl rfl⟩
theorem fl_Row_21 : gFld "MatchMill$Row" 21 T_Row 2 := ⟨"MatchMill$Row", wI (i := 770) (by decide +kernel), Or.inl rfl⟩
theorem fl_Passage_49 : gFld "MatchMill$Passage" 49 T_Row 2 := ⟨"MatchMill$Row", wI (i := 771) (by decide +kernel), Or.inl rfl⟩
theorem fl_Row_24 : gFld "MatchMill$Row" 24 T_Row 3 := ⟨"MatchMill$Row", wI (i := 772) (by decide +kernel), Or.inl rfl⟩
theorem fl_Tree_165 : gFld "MatchMill$Tree" 165 T_Row 3 := ⟨"MatchMill$Row", wI (i := 773) (by decide +kernel), Or.inl rfl⟩
theorem fl_Rows_108 : gFld "MatchMill$Rows" 108 T_Row 3 := ⟨"MatchMill$Row", wI (i := 774) (by decide +kernel), Or.inl rfl⟩
theorem fl_Row_34 : gFld "MatchMill$Row" 34 T_Row 4 := ⟨"MatchMill$Row", wI (i := 775) (by decide +kernel), Or.inl rfl⟩
theorem fl_Tree_130 : gFld "MatchMill$Tree" 130 T_Question 0 := ⟨"MatchMill$Question", wI (i := 870) (by decide +kernel), Or.inl rfl⟩
theorem fl_Rows_56 : gFld "MatchMill$Rows" 56 T_Question 0 := ⟨"MatchMill$Question", wI (i := 871) (by decide +kernel), Or.inl rfl⟩
theorem fl_Rows_61 : gFld "MatchMill$Rows" 61 T_Question 1 := ⟨"MatchMill$Question", wI (i := 872) (by decide +kernel), Or.inl rfl⟩
theorem fl_Tree_195 : gFld "MatchMill$Tree" 195 T_Question 1 := ⟨"MatchMill$Question", wI (i := 873) (by decide +kernel), Or.inl rfl⟩
theorem fl_Tree_75 : gFld "MatchMill$Tree" 75 T_Question 2 := ⟨"MatchMill$Question", wI (i := 874) (by decide +kernel), Or.inl rfl⟩
theorem fl_Places_35 : gFld "MatchMill$Places" 35 T_Question 2 := ⟨"MatchMill$Question", wI (i := 875) (by decide +kernel), Or.inl rfl⟩
theorem fl_Rows_63 : gFld "MatchMill$Rows" 63 T_Question 2 := ⟨"MatchMill$Question", wI (i := 876) (by decide +kernel), Or.inl rfl⟩
theorem fl_Tree_203 : gFld "MatchMill$Tree" 203 T_Question 3 := ⟨"MatchMill$Question", wI (i := 877) (by decide +kernel), Or.inl rfl⟩
theorem fl_Places_44 : gFld "MatchMill$Places" 44 T_Question 4 := ⟨"MatchMill$Question", wI (i := 878) (by decide +kernel), Or.inl rfl⟩
theorem fl_Rows_83 : gFld "MatchMill$Rows" 83 T_Question 4 := ⟨"MatchMill$Question", wI (i := 879) (by decide +kernel), Or.inl rfl⟩
theorem fl_Tree_207 : gFld "MatchMill$Tree" 207 T_Question 4 := ⟨"MatchMill$Question", wI (i := 880) (by decide +kernel), Or.inl rfl⟩
theorem fl_Places_40 : gFld "MatchMill$Places" 40 T_Question 5 := ⟨"MatchMill$Question", wI (i := 881) (by decide +kernel), Or.inl rfl⟩
theorem fl_Tree_137 : gFld "MatchMill$Tree" 137 T_Question 5 := ⟨"MatchMill$Question", wI (i := 882) (by decide +kernel), Or.inl rfl⟩
theorem fl_Tree_212 : gFld "MatchMill$Tree" 212 T_Question 6 := ⟨"MatchMill$Question", wI (i := 883) (by decide +kernel), Or.inl rfl⟩
theorem fl_Tree_72 : gFld "MatchMill$Tree" 72 T_Question 7 := ⟨"MatchMill$Question", wI (i := 884) (by decide +kernel), Or.inl rfl⟩
theorem fl_Tree_192 : gFld "MatchMill$Tree" 192 T_Question 8 := ⟨"MatchMill$Question", wI (i := 885) (by decide +kernel), Or.inl rfl⟩
theorem fl_Tree_82 : gFld "MatchMill$Tree" 82 T_Question 9 := ⟨"MatchMill$Question", wI (i := 886) (by decide +kernel), Or.inl rfl⟩
theorem fl_Tree_189 : gFld "MatchMill$Tree" 189 T_Question 10 := ⟨"MatchMill$Question", wI (i := 887) (by decide +kernel), Or.inl rfl⟩
theorem fl_Tree_69 : gFld "MatchMill$Tree" 69 T_Question 11 := ⟨"MatchMill$Question", wI (i := 888) (by decide +kernel), Or.inl rfl⟩
theorem fl_Model_138 : gFld "MatchMillModel" 138 T_Model 0 := ⟨"MatchMillModel", wI (i := 1122) (by decide +kernel), Or.inl rfl⟩
theorem fl_Model_7 : gFld "MatchMillModel" 7 T_Model 1 := ⟨"MatchMillModel", wI (i := 1123) (by decide +kernel), Or.inl rfl⟩
theorem fl_Model_13 : gFld "MatchMillModel" 13 T_Model 2 := ⟨"MatchMillModel", wI (i := 1124) (by decide +kernel), Or.inl rfl⟩
theorem fl_Model_16 : gFld "MatchMillModel" 16 T_Model 3 := ⟨"MatchMillModel", wI (i := 1125) (by decide +kernel), Or.inl rfl⟩
theorem fl_Model_149 : gFld "MatchMillModel" 149 T_Model 4 := ⟨"MatchMillModel", wI (i := 1126) (by decide +kernel), Or.inl rfl⟩
theorem fl_Model_160 : gFld "MatchMillModel" 160 T_Model 5 := ⟨"MatchMillModel", wI (i := 1127) (by decide +kernel), Or.inl rfl⟩
theorem fl_Model_19 : gFld "MatchMillModel" 19 T_Model 6 := ⟨"MatchMillModel", wI (i := 1128) (by decide +kernel), Or.inl rfl⟩
theorem fl_Model_22 : gFld "MatchMillModel" 22 T_Model 7 := ⟨"MatchMillModel", wI (i := 1129) (by decide +kernel), Or.inl rfl⟩
theorem fl_Model_25 : gFld "MatchMillModel" 25 T_Model 8 := ⟨"MatchMillModel", wI (i := 1130) (by decide +kernel), Or.inl rfl⟩
theorem fl_Model_28 : gFld "MatchMillModel" 28 T_Model 9 := ⟨"MatchMillModel", wI (i := 1131) (by decide +kernel), Or.inl rfl⟩
theorem fl_Model_31 : gFld "MatchMillModel" 31 T_Model 10 := ⟨"MatchMillModel", wI (i := 1132) (by decide +kernel), Or.inl rfl⟩
theorem fl_Model_34 : gFld "MatchMillModel" 34 T_Model 11 := ⟨"MatchMillModel", wI (i := 1133) (by decide +kernel), Or.inl rfl⟩
theorem fl_Model_37 : gFld "MatchMillModel" 37 T_Model 12 := ⟨"MatchMillModel", wI (i := 1134) (by decide +kernel), Or.inl rfl⟩
theorem fl_Model_40 : gFld "MatchMillModel" 40 T_Model 13 := ⟨"MatchMillModel", wI (i := 1135) (by decide +kernel), Or.inl rfl⟩
theorem fl_Model_166 : gFld "MatchMillModel" 166 T_Model 14 := ⟨"MatchMillModel", wI (i := 1136) (by decide +kernel), Or.inl rfl⟩
theorem fl_Model_163 : gFld "MatchMillModel" 163 T_Model 15 := ⟨"MatchMillModel", wI (i := 1137) (by decide +kernel), Or.inl rfl⟩
theorem fl_Model_181 : gFld "MatchMillModel" 181 T_Model 16 := ⟨"MatchMillModel", wI (i := 1138) (by decide +kernel), Or.inl rfl⟩
theorem fl_Model_43 : gFld "MatchMillModel" 43 T_Model 17 := ⟨"MatchMillModel", wI (i := 1139) (by decide +kernel), Or.inl rfl⟩
theorem fl_Model_46 : gFld "MatchMillModel" 46 T_Model 18 := ⟨"MatchMillModel", wI (i := 1140) (by decide +kernel), Or.inl rfl⟩
theorem fl_Model_184 : gFld "MatchMillModel" 184 T_Model 19 := ⟨"MatchMillModel", wI (i := 1141) (by decide +kernel), Or.inl rfl⟩
theorem fl_Model_225 : gFld "MatchMillModel" 225 T_Model 20 := ⟨"MatchMillModel", wI (i := 1142) (by decide +kernel), Or.inl rfl⟩
theorem fl_Model_228 : gFld "MatchMillModel" 228 T_Model 21 := ⟨"MatchMillModel", wI (i := 1143) (by decide +kernel), Or.inl rfl⟩
theorem fl_Model_231 : gFld "MatchMillModel" 231 T_Model 22 := ⟨"MatchMillModel", wI (i := 1144) (by decide +kernel), Or.inl rfl⟩
theorem fl_Model_234 : gFld "MatchMillModel" 234 T_Model 23 := ⟨"MatchMillModel", wI (i := 1145) (by decide +kernel), Or.inl rfl⟩
theorem fl_Model_237 : gFld "MatchMillModel" 237 T_Model 24 := ⟨"MatchMillModel", wI (i := 1146) (by decide +kernel), Or.inl rfl⟩
theorem fl_Model_240 : gFld "MatchMillModel" 240 T_Model 25 := ⟨"MatchMillModel", wI (i := 1147) (by decide +kernel), Or.inl rfl⟩
theorem fl_Model_243 : gFld "MatchMillModel" 243 T_Model 26 := ⟨"MatchMillModel", wI (i := 1148) (by decide +kernel), Or.inl rfl⟩
theorem fl_Model_50 : gFld "MatchMillModel" 50 T_Model 27 := ⟨"MatchMillModel", wI (i := 1149) (by decide +kernel), Or.inl rfl⟩
theorem fl_Model_53 : gFld "MatchMillModel" 53 T_Model 28 := ⟨"MatchMillModel", wI (i := 1150) (by decide +kernel), Or.inl rfl⟩
theorem fl_Model_56 : gFld "MatchMillModel" 56 T_Model 29 := ⟨"MatchMillModel", wI (i := 1151) (by decide +kernel), Or.inl rfl⟩
theorem fl_Model_59 : gFld "MatchMillModel" 59 T_Model 30 := ⟨"MatchMillModel", wI (i := 1152) (by decide +kernel), Or.inl rfl⟩
theorem fl_Model_62 : gFld "MatchMillModel" 62 T_Model 31 := ⟨"MatchMillModel", wI (i := 1153) (by decide +kernel), Or.inl rfl⟩
theorem fl_Model_65 : gFld "MatchMillModel" 65 T_Model 32 := ⟨"MatchMillModel", wI (i := 1154) (by decide +kernel), Or.inl rfl⟩
theorem fl_Model_68 : gFld "MatchMillModel" 68 T_Model 33 := ⟨"MatchMillModel", wI (i := 1155) (by decide +kernel), Or.inl rfl⟩
theorem fl_Model_202 : gFld "MatchMillModel" 202 T_Model 34 := ⟨"MatchMillModel", wI (i := 1156) (by decide +kernel), Or.inl rfl⟩
theorem fl_Model_71 : gFld "MatchMillModel" 71 T_Model 35 := ⟨"MatchMillModel", wI (i := 1157) (by decide +kernel), Or.inl rfl⟩
theorem fl_Model_74 : gFld "MatchMillModel" 74 T_Model 36 := ⟨"MatchMillModel", wI (i := 1158) (by decide +kernel), Or.inl rfl⟩
theorem fl_Model_78 : gFld "MatchMillModel" 78 T_Model 37 := ⟨"MatchMillModel", wI (i := 1159) (by decide +kernel), Or.inl rfl⟩
theorem fl_Model_81 : gFld "MatchMillModel" 81 T_Model 38 := ⟨"MatchMillModel", wI (i := 1160) (by decide +kernel), Or.inl rfl⟩
theorem fl_Model_84 : gFld "MatchMillModel" 84 T_Model 39 := ⟨"MatchMillModel", wI (i := 1161) (by decide +kernel), Or.inl rfl⟩
theorem fl_Model_87 : gFld "MatchMillModel" 87 T_Model 40 := ⟨"MatchMillModel", wI (i := 1162) (by decide +kernel), Or.inl rfl⟩
theorem fl_Model_91 : gFld "MatchMillModel" 91 T_Model 41 := ⟨"MatchMillModel", wI (i := 1163) (by decide +kernel), Or.inl rfl⟩
theorem fl_Model_94 : gFld "MatchMillModel" 94 T_Model 42 := ⟨"MatchMillModel", wI (i := 1164) (by decide +kernel), Or.inl rfl⟩
theorem fl_Model_98 : gFld "MatchMillModel" 98 T_Model 43 := ⟨"MatchMillModel", wI (i := 1165) (by decide +kernel), Or.inl rfl⟩
theorem fl_Model_101 : gFld "MatchMillModel" 101 T_Model 44 := ⟨"MatchMillModel", wI (i := 1166) (by decide +kernel), Or.inl rfl⟩
theorem fl_Model_105 : gFld "MatchMillModel" 105 T_Model 45 := ⟨"MatchMillModel", wI (i := 1167) (by decide +kernel), Or.inl rfl⟩
theorem fl_Model_192 : gFld "MatchMillModel" 192 T_Model 46 := ⟨"MatchMillModel", wI (i := 1168) (by decide +kernel), Or.inl rfl⟩
theorem fl_Model_195 : gFld "MatchMillModel" 195 T_Model 47 := ⟨"MatchMillModel", wI (i := 1169) (by decide +kernel), Or.inl rfl⟩
theorem fl_Model_108 : gFld "MatchMillModel" 108 T_Model 48 := ⟨"MatchMillModel", wI (i := 1170) (by decide +kernel), Or.inl rfl⟩
theorem fl_Model_111 : gFld "MatchMillModel" 111 T_Model 49 := ⟨"MatchMillModel", wI (i := 1171) (by decide +kernel), Or.inl rfl⟩
theorem fl_Model_114 : gFld "MatchMillModel" 114 T_Model 50 := ⟨"MatchMillModel", wI (i := 1172) (by decide +kernel), Or.inl rfl⟩
theorem fl_Model_117 : gFld "MatchMillModel" 117 T_Model 51 := ⟨"MatchMillModel", wI (i := 1173) (by decide +kernel), Or.inl rfl⟩
theorem fl_Model_120 : gFld "MatchMillModel" 120 T_Model 52 := ⟨"MatchMillModel", wI (i := 1174) (by decide +kernel), Or.inl rfl⟩
theorem fl_Model_123 : gFld "MatchMillModel" 123 T_Model 53 := ⟨"MatchMillModel", wI (i := 1175) (by decide +kernel), Or.inl rfl⟩
theorem fl_Model_142 : gFld "MatchMillModel" 142 T_Model 54 := ⟨"MatchMillModel", wI (i := 1176) (by decide +kernel), Or.inl rfl⟩
theorem fl_Model_126 : gFld "MatchMillModel" 126 T_Model 55 := ⟨"MatchMillModel", wI (i := 1177) (by decide +kernel), Or.inl rfl⟩
theorem fl_Model_129 : gFld "MatchMillModel" 129 T_Model 56 := ⟨"MatchMillModel", wI (i := 1178) (by decide +kernel), Or.inl rfl⟩
theorem fl_Model_132 : gFld "MatchMillModel" 132 T_Model 57 := ⟨"MatchMillModel", wI (i := 1179) (by decide +kernel), Or.inl rfl⟩
theorem fl_Model_275 : gFld "MatchMillModel" 275 T_Model 58 := ⟨"MatchMillModel", wI (i := 1180) (by decide +kernel), Or.inl rfl⟩
theorem cl_Law_8 : Cond.classLink "MatchMillLaw" 8 "MatchMill" ∈ lw_tbl := wI (i := 30) (by decide +kernel)
theorem cl_Mill_9 : Cond.classLink "MatchMill" 9 "MatchMill$Types" ∈ lw_tbl := wI (i := 38) (by decide +kernel)
theorem cl_Mill_12 : Cond.classLink "MatchMill" 12 "MatchMill$Cases" ∈ lw_tbl := wI (i := 58) (by decide +kernel)
theorem cl_Cases_9 : Cond.classLink "MatchMill$Cases" 9 "MatchMill$Term" ∈ lw_tbl := wI (i := 64) (by decide +kernel)
theorem cl_Mill_23 : Cond.classLink "MatchMill" 23 "MatchMill$Pile" ∈ lw_tbl := wI (i := 77) (by decide +kernel)
theorem cl_Pile_9 : Cond.classLink "MatchMill$Pile" 9 "MatchMill$Term" ∈ lw_tbl := wI (i := 83) (by decide +kernel)
theorem cl_Mill_33 : Cond.classLink "MatchMill" 33 "MatchMill$Tree" ∈ lw_tbl := wI (i := 91) (by decide +kernel)
theorem cl_Tree_9 : Cond.classLink "MatchMill$Tree" 9 "MatchMill$Rows" ∈ lw_tbl := wI (i := 97) (by decide +kernel)
theorem cl_Rows_9 : Cond.classLink "MatchMill$Rows" 9 "java/util/ArrayList" ∈ lw_tbl := wI (i := 103) (by decide +kernel)
theorem cl_Tree_18 : Cond.classLink "MatchMill$Tree" 18 "MatchMill$Places" ∈ lw_tbl := wI (i := 136) (by decide +kernel)
theorem cl_Places_9 : Cond.classLink "MatchMill$Places" 9 "java/util/ArrayList" ∈ lw_tbl := wI (i := 142) (by decide +kernel)
theorem cl_Tree_25 : Cond.classLink "MatchMill$Tree" 25 "java/util/ArrayList" ∈ lw_tbl := wI (i := 151) (by decide +kernel)
theorem cl_Mill_42 : Cond.classLink "MatchMill" 42 "MatchMill$Passage" ∈ lw_tbl := wI (i := 196) (by decide +kernel)
theorem cl_Passage_15 : Cond.classLink "MatchMill$Passage" 15 "MatchMill$Term" ∈ lw_tbl := wI (i := 202) (by decide +kernel)
theorem cl_Passage_21 : Cond.classLink "MatchMill$Passage" 21 "java/util/ArrayList" ∈ lw_tbl := wI (i := 203) (by decide +kernel)
theorem cl_Law_13 : Cond.classLink "MatchMillLaw" 13 "java/lang/IllegalArgumentException" ∈ lw_tbl := wI (i := 324) (by decide +kernel)
theorem cl_Law_15 : Cond.classLink "MatchMillLaw" 15 "java/lang/IllegalStateException" ∈ lw_tbl := wI (i := 325) (by decide +kernel)
theorem cl_Mill_53 : Cond.classLink "MatchMill" 53 "java/lang/IllegalArgumentException" ∈ lw_tbl := wI (i := 334) (by decide +kernel)
theorem cl_Mill_63 : Cond.classLink "MatchMill" 63 "java/lang/IllegalStateException" ∈ lw_tbl := wI (i := 402) (by decide +kernel)
theorem cl_Mill_82 : Cond.classLink "MatchMill" 82 "MatchMill$Term" ∈ lw_tbl := wI (i := 449) (by decide +kernel)
theorem cl_Law_46 : Cond.classLink "MatchMillLaw" 46 "java/lang/UnsupportedOperationException" ∈ lw_tbl := wI (i := 608) (by decide +kernel)
theorem cl_Places_30 : Cond.classLink "MatchMill$Places" 30 "MatchMill$Place" ∈ lw_tbl := wI (i := 639) (by decide +kernel)
theorem cl_Arrays_110 : Cond.classLink "java/util/Arrays" 110 "[Ljava/lang/Object;" ∈ lw_tbl := wI (i := 717) (by decide +kernel)
theorem cl_Arrays_2 : Cond.classLink "java/util/Arrays" 2 "java/lang/Object" ∈ lw_tbl := wI (i := 719) (by decide +kernel)
theorem cl_ArrayList_7 : Cond.classLink "java/util/ArrayList" 7 "java/lang/Object" ∈ lw_tbl := wI (i := 725) (by decide +kernel)
theorem cl_Rows_32 : Cond.classLink "MatchMill$Rows" 32 "MatchMill$Row" ∈ lw_tbl := wI (i := 758) (by decide +kernel)
theorem cl_Row_15 : Cond.classLink "MatchMill$Row" 15 "MatchMill$Term" ∈ lw_tbl := wI (i := 764) (by decide +kernel)
theorem cl_Tree_67 : Cond.classLink "MatchMill$Tree" 67 "MatchMill$Question" ∈ lw_tbl := wI (i := 864) (by decide +kernel)
theorem cl_Mill_167 : Cond.classLink "MatchMill" 167 "java/lang/UnsupportedOperationException" ∈ lw_tbl := wI (i := 1001) (by decide +kernel)
theorem cl_Law_65 : Cond.classLink "MatchMillLaw" 65 "MatchMillModel" ∈ lw_tbl := wI (i := 1108) (by decide +kernel)
theorem cn_Integer_265 : Cond.constant "java/lang/Integer" 265 1431655765 ∈ lw_tbl := wI (i := 583) (by decide +kernel)
theorem cn_Integer_266 : Cond.constant "java/lang/Integer" 266 858993459 ∈ lw_tbl := wI (i := 584) (by decide +kernel)
theorem cn_Integer_267 : Cond.constant "java/lang/Integer" 267 252645135 ∈ lw_tbl := wI (i := 585) (by decide +kernel)
theorem cn_ArraysSupport_200 : Cond.constant "jdk/internal/util/ArraysSupport" 200 2147483639 ∈ lw_tbl := wI (i := 686) (by decide +kernel)
theorem cn_Tree_62 : Cond.constant "MatchMill$Tree" 62 1000000 ∈ lw_tbl := wI (i := 965) (by decide +kernel)
theorem cn_Model_77 : Cond.constant "MatchMillModel" 77 70400 ∈ lw_tbl := wI (i := 1114) (by decide +kernel)
theorem cn_Model_90 : Cond.constant "MatchMillModel" 90 41640 ∈ lw_tbl := wI (i := 1115) (by decide +kernel)
theorem cn_Model_97 : Cond.constant "MatchMillModel" 97 1082640 ∈ lw_tbl := wI (i := 1116) (by decide +kernel)
theorem cn_Model_104 : Cond.constant "MatchMillModel" 104 333120 ∈ lw_tbl := wI (i := 1117) (by decide +kernel)
theorem cn_Model_187 : Cond.constant "MatchMillModel" 187 41600 ∈ lw_tbl := wI (i := 1374) (by decide +kernel)
theorem wa_int : Cond.arrayClass FieldType.int ∈ lw_tbl := wI (i := 57) (by decide +kernel)
theorem wa_boolean : Cond.arrayClass FieldType.boolean ∈ lw_tbl := wI (i := 76) (by decide +kernel)
theorem wa_long : Cond.arrayClass FieldType.long ∈ lw_tbl := wI (i := 1475) (by decide +kernel)
theorem wo_Term : Cond.arrayOver (.object "MatchMill$Term") ∈ lw_tbl := wI (i := 65) (by decide +kernel)
theorem wo_Object : Cond.arrayOver (.object "java/lang/Object") ∈ lw_tbl := wI (i := 718) (by decide +kernel)
theorem ca_IAE_IAE : Cond.castable "java/lang/IllegalArgumentException" "java/lang/IllegalArgumentException" ∈ lw_tbl := wI (i := 336) (by decide +kernel)
theorem ca_ISE_ISE : Cond.castable "java/lang/IllegalStateException" "java/lang/IllegalStateException" ∈ lw_tbl := wI (i := 404) (by decide +kernel)
theorem ca_UOE_UOE : Cond.castable "java/lang/UnsupportedOperationException" "java/lang/UnsupportedOperationException" ∈ lw_tbl := wI (i := 1003) (by decide +kernel)
theorem ca_Place_Place : Cond.castable "MatchMill$Place" "MatchMill$Place" ∈ lw_tbl := wI (i := 1477) (by decide +kernel)
theorem ca_Row_Row : Cond.castable "MatchMill$Row" "MatchMill$Row" ∈ lw_tbl := wI (i := 1478) (by decide +kernel)
theorem ca_Question_Question : Cond.castable "MatchMill$Question" "MatchMill$Question" ∈ lw_tbl := wI (i := 1479) (by decide +kernel)
theorem ca_Term_Term : Cond.castable "MatchMill$Term" "MatchMill$Term" ∈ lw_tbl := wI (i := 1480) (by decide +kernel)
theorem ca_Mill_Object : Cond.castable "MatchMill" "java/lang/Object" ∈ lw_tbl := wI (i := 1484) (by decide +kernel)
theorem ca_Types_Object : Cond.castable "MatchMill$Types" "java/lang/Object" ∈ lw_tbl := wI (i := 1485) (by decide +kernel)
theorem ca_Cases_Object : Cond.castable "MatchMill$Cases" "java/lang/Object" ∈ lw_tbl := wI (i := 1486) (by decide +kernel)
theorem ca_Pile_Object : Cond.castable "MatchMill$Pile" "java/lang/Object" ∈ lw_tbl := wI (i := 1487) (by decide +kernel)
theorem ca_Tree_Object : Cond.castable "MatchMill$Tree" "java/lang/Object" ∈ lw_tbl := wI (i := 1488) (by decide +kernel)
theorem ca_Rows_Object : Cond.castable "MatchMill$Rows" "java/lang/Object" ∈ lw_tbl := wI (i := 1489) (by decide +kernel)
theorem ca_Places_Object : Cond.castable "MatchMill$Places" "java/lang/Object" ∈ lw_tbl := wI (i := 1490) (by decide +kernel)
theorem ca_Passage_Object : Cond.castable "MatchMill$Passage" "java/lang/Object" ∈ lw_tbl := wI (i := 1491) (by decide +kernel)
theorem ca_Model_Object : Cond.castable "MatchMillModel" "java/lang/Object" ∈ lw_tbl := wI (i := 1492) (by decide +kernel)
theorem ca_Term_Object : Cond.castable "MatchMill$Term" "java/lang/Object" ∈ lw_tbl := wI (i := 1493) (by decide +kernel)
theorem ca_Place_Object : Cond.castable "MatchMill$Place" "java/lang/Object" ∈ lw_tbl := wI (i := 1494) (by decide +kernel)
theorem ca_Row_Object : Cond.castable "MatchMill$Row" "java/lang/Object" ∈ lw_tbl := wI (i := 1495) (by decide +kernel)
theorem ca_Question_Object : Cond.castable "MatchMill$Question" "java/lang/Object" ∈ lw_tbl := wI (i := 1496) (by decide +kernel)
theorem w_objI : Cond.instanceMethod Lib.objectInit ∈ lw_tbl := wI (i := 36) (by decide +kernel)
theorem w_objC : Cond.code Lib.objectInit ⟨#[0xb1]⟩ 1 none ∈ lw_tbl := wI (i := 37) (by decide +kernel)

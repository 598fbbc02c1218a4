/-! Constructors -/
theorem d_Arrays_fill_0 : decode Y_Arrays_fill.2.1 0 = .ok (.iconst 0, 1) := by decide +kernel
theorem d_Arrays_fill_1 : decode Y_Arrays_fill.2.1 1 = .ok (.istore_n 2, 1) := by decide +kernel
theorem d_Arrays_fill_2 : decode Y_Arrays_fill.2.1 2 = .ok (.aload_n 0, 1) := by decide +kernel
theorem d_Arrays_fill_3 : decode Y_Arrays_fill.2.1 3 = .ok (.arraylength, 1) := by decide +kernel
theorem d_Arrays_fill_4 : decode Y_Arrays_fill.2.1 4 = .ok (.istore_n 3, 1) := by decide +kernel
theorem d_Arrays_fill_5 : decode Y_Arrays_fill.2.1 5 = .ok (.iload_n 2, 1) := by decide +kernel
theorem d_Arrays_fill_6 : decode Y_Arrays_fill.2.1 6 = .ok (.iload_n 3, 1) := by decide +kernel
theorem d_Arrays_fill_7 : decode Y_Arrays_fill.2.1 7 = .ok (.if_icmp .ge 13, 3) := by decide +kernel
theorem d_Arrays_fill_10 : decode Y_Arrays_fill.2.1 10 = .ok (.aload_n 0, 1) := by decide +kernel
theorem d_Arrays_fill_11 : decode Y_Arrays_fill.2.1 11 = .ok (.iload_n 2, 1) := by decide +kernel
theorem d_Arrays_fill_12 : decode Y_Arrays_fill.2.1 12 = .ok (.iload_n 1, 1) := by decide +kernel
theorem d_Arrays_fill_13 : decode Y_Arrays_fill.2.1 13 = .ok (.iastore, 1) := by decide +kernel
theorem d_Arrays_fill_14 : decode Y_Arrays_fill.2.1 14 = .ok (.iinc 2 1, 3) := by decide +kernel
theorem d_Arrays_fill_17 : decode Y_Arrays_fill.2.1 17 = .ok (.goto (-12), 3) := by decide +kernel
theorem d_Arrays_fill_20 : decode Y_Arrays_fill.2.1 20 = .ok (.return_, 1) := by decide +kernel
theorem d_Pile_init_0 : decode Y_Pile_init.2.1 0 = .ok (.aload_n 0, 1) := by decide +kernel
theorem d_Pile_init_1 : decode Y_Pile_init.2.1 1 = .ok (.invokespecial 3, 3) := by decide +kernel
theorem d_Pile_init_4 : decode Y_Pile_init.2.1 4 = .ok (.aload_n 0, 1) := by decide +kernel
theorem d_Pile_init_5 : decode Y_Pile_init.2.1 5 = .ok (.bipush 40, 2) := by decide +kernel
theorem d_Pile_init_7 : decode Y_Pile_init.2.1 7 = .ok (.anewarray 9, 3) := by decide +kernel
theorem d_Pile_init_10 : decode Y_Pile_init.2.1 10 = .ok (.putfield 11, 3) := by decide +kernel
theorem d_Pile_init_13 : decode Y_Pile_init.2.1 13 = .ok (.return_, 1) := by decide +kernel
theorem d_Cases_init_0 : decode Y_Cases_init.2.1 0 = .ok (.aload_n 0, 1) := by decide +kernel
theorem d_Cases_init_1 : decode Y_Cases_init.2.1 1 = .ok (.invokespecial 3, 3) := by decide +kernel
theorem d_Cases_init_4 : decode Y_Cases_init.2.1 4 = .ok (.aload_n 0, 1) := by decide +kernel
theorem d_Cases_init_5 : decode Y_Cases_init.2.1 5 = .ok (.bipush 20, 2) := by decide +kernel
theorem d_Cases_init_7 : decode Y_Cases_init.2.1 7 = .ok (.anewarray 9, 3) := by decide +kernel
theorem d_Cases_init_10 : decode Y_Cases_init.2.1 10 = .ok (.putfield 11, 3) := by decide +kernel
theorem d_Cases_init_13 : decode Y_Cases_init.2.1 13 = .ok (.aload_n 0, 1) := by decide +kernel
theorem d_Cases_init_14 : decode Y_Cases_init.2.1 14 = .ok (.bipush 20, 2) := by decide +kernel
theorem d_Cases_init_16 : decode Y_Cases_init.2.1 16 = .ok (.newarray .boolean, 2) := by decide +kernel
theorem d_Cases_init_18 : decode Y_Cases_init.2.1 18 = .ok (.putfield 17, 3) := by decide +kernel
theorem d_Cases_init_21 : decode Y_Cases_init.2.1 21 = .ok (.return_, 1) := by decide +kernel
theorem d_Types_init_0 : decode Y_Types_init.2.1 0 = .ok (.aload_n 0, 1) := by decide +kernel
theorem d_Types_init_1 : decode Y_Types_init.2.1 1 = .ok (.invokespecial 3, 3) := by decide +kernel
theorem d_Types_init_4 : decode Y_Types_init.2.1 4 = .ok (.aload_n 0, 1) := by decide +kernel
theorem d_Types_init_5 : decode Y_Types_init.2.1 5 = .ok (.bipush 16, 2) := by decide +kernel
theorem d_Types_init_7 : decode Y_Types_init.2.1 7 = .ok (.newarray .int, 2) := by decide +kernel
theorem d_Types_init_9 : decode Y_Types_init.2.1 9 = .ok (.putfield 9, 3) := by decide +kernel
theorem d_Types_init_12 : decode Y_Types_init.2.1 12 = .ok (.aload_n 0, 1) := by decide +kernel
theorem d_Types_init_13 : decode Y_Types_init.2.1 13 = .ok (.sipush 128, 3) := by decide +kernel
theorem d_Types_init_16 : decode Y_Types_init.2.1 16 = .ok (.newarray .int, 2) := by decide +kernel
theorem d_Types_init_18 : decode Y_Types_init.2.1 18 = .ok (.putfield 15, 3) := by decide +kernel
theorem d_Types_init_21 : decode Y_Types_init.2.1 21 = .ok (.aload_n 0, 1) := by decide +kernel
theorem d_Types_init_22 : decode Y_Types_init.2.1 22 = .ok (.sipush 512, 3) := by decide +kernel
theorem d_Types_init_25 : decode Y_Types_init.2.1 25 = .ok (.newarray .int, 2) := by decide +kernel
theorem d_Types_init_27 : decode Y_Types_init.2.1 27 = .ok (.putfield 18, 3) := by decide +kernel
theorem d_Types_init_30 : decode Y_Types_init.2.1 30 = .ok (.aload_n 0, 1) := by decide +kernel
theorem d_Types_init_31 : decode Y_Types_init.2.1 31 = .ok (.getfield 9, 3) := by decide +kernel
theorem d_Types_init_34 : decode Y_Types_init.2.1 34 = .ok (.iconst (-1), 1) := by decide +kernel
theorem d_Types_init_35 : decode Y_Types_init.2.1 35 = .ok (.invokestatic 21, 3) := by decide +kernel
theorem d_Types_init_38 : decode Y_Types_init.2.1 38 = .ok (.return_, 1) := by decide +kernel
theorem d_AbstractCollection_init_0 : decode Y_AbstractCollection_init.2.1 0 = .ok (.aload_n 0, 1) := by decide +kernel
theorem d_AbstractCollection_init_1 : decode Y_AbstractCollection_init.2.1 1 = .ok (.invokespecial 1, 3) := by decide +kernel
theorem d_AbstractCollection_init_4 : decode Y_AbstractCollection_init.2.1 4 = .ok (.return_, 1) := by decide +kernel
theorem d_AbstractList_init_0 : decode Y_AbstractList_init.2.1 0 = .ok (.aload_n 0, 1) := by decide +kernel
theorem d_AbstractList_init_1 : decode Y_AbstractList_init.2.1 1 = .ok (.invokespecial 1, 3) := by decide +kernel
theorem d_AbstractList_init_4 : decode Y_AbstractList_init.2.1 4 = .ok (.aload_n 0, 1) := by decide +kernel
theorem d_AbstractList_init_5 : decode Y_AbstractList_init.2.1 5 = .ok (.iconst 0, 1) := by decide +kernel
theorem d_AbstractList_init_6 : decode Y_AbstractList_init.2.1 6 = .ok (.putfield 7, 3) := by decide +kernel
theorem d_AbstractList_init_9 : decode Y_AbstractList_init.2.1 9 = .ok (.return_, 1) := by decide +kernel
theorem d_ArrayList_init_0 : decode Y_ArrayList_init.2.1 0 = .ok (.aload_n 0, 1) := by decide +kernel
theorem d_ArrayList_init_1 : decode Y_ArrayList_init.2.1 1 = .ok (.invokespecial 1, 3) := by decide +kernel
theorem d_ArrayList_init_4 : decode Y_ArrayList_init.2.1 4 = .ok (.aload_n 0, 1) := by decide +kernel
theorem d_ArrayList_init_5 : decode Y_ArrayList_init.2.1 5 = .ok (.getstatic 39, 3) := by decide +kernel
theorem d_ArrayList_init_8 : decode Y_ArrayList_init.2.1 8 = .ok (.putfield 9, 3) := by decide +kernel
theorem d_ArrayList_init_11 : decode Y_ArrayList_init.2.1 11 = .ok (.return_, 1) := by decide +kernel
theorem d_Rows_init_0 : decode Y_Rows_init.2.1 0 = .ok (.aload_n 0, 1) := by decide +kernel
theorem d_Rows_init_1 : decode Y_Rows_init.2.1 1 = .ok (.invokespecial 3, 3) := by decide +kernel
theorem d_Rows_init_4 : decode Y_Rows_init.2.1 4 = .ok (.aload_n 0, 1) := by decide +kernel
theorem d_Rows_init_5 : decode Y_Rows_init.2.1 5 = .ok (.new 9, 3) := by decide +kernel
theorem d_Rows_init_8 : decode Y_Rows_init.2.1 8 = .ok (.dup, 1) := by decide +kernel
theorem d_Rows_init_9 : decode Y_Rows_init.2.1 9 = .ok (.invokespecial 11, 3) := by decide +kernel
theorem d_Rows_init_12 : decode Y_Rows_init.2.1 12 = .ok (.putfield 12, 3) := by decide +kernel
theorem d_Rows_init_15 : decode Y_Rows_init.2.1 15 = .ok (.return_, 1) := by decide +kernel
theorem d_Places_init_0 : decode Y_Places_init.2.1 0 = .ok (.aload_n 0, 1) := by decide +kernel
theorem d_Places_init_1 : decode Y_Places_init.2.1 1 = .ok (.invokespecial 3, 3) := by decide +kernel
theorem d_Places_init_4 : decode Y_Places_init.2.1 4 = .ok (.aload_n 0, 1) := by decide +kernel
theorem d_Places_init_5 : decode Y_Places_init.2.1 5 = .ok (.new 9, 3) := by decide +kernel
theorem d_Places_init_8 : decode Y_Places_init.2.1 8 = .ok (.dup, 1) := by decide +kernel
theorem d_Places_init_9 : decode Y_Places_init.2.1 9 = .ok (.invokespecial 11, 3) := by decide +kernel
theorem d_Places_init_12 : decode Y_Places_init.2.1 12 = .ok (.putfield 12, 3) := by decide +kernel
theorem d_Places_init_15 : decode Y_Places_init.2.1 15 = .ok (.return_, 1) := by decide +kernel
theorem d_Tree_init_0 : decode Y_Tree_init.2.1 0 = .ok (.aload_n 0, 1) := by decide +kernel
theorem d_Tree_init_1 : decode Y_Tree_init.2.1 1 = .ok (.invokespecial 3, 3) := by decide +kernel
theorem d_Tree_init_4 : decode Y_Tree_init.2.1 4 = .ok (.aload_n 0, 1) := by decide +kernel
theorem d_Tree_init_5 : decode Y_Tree_init.2.1 5 = .ok (.new 9, 3) := by decide +kernel
theorem d_Tree_init_8 : decode Y_Tree_init.2.1 8 = .ok (.dup, 1) := by decide +kernel
theorem d_Tree_init_9 : decode Y_Tree_init.2.1 9 = .ok (.invokespecial 11, 3) := by decide +kernel
theorem d_Tree_init_12 : decode Y_Tree_init.2.1 12 = .ok (.putfield 12, 3) := by decide +kernel
theorem d_Tree_init_15 : decode Y_Tree_init.2.1 15 = .ok (.aload_n 0, 1) := by decide +kernel
theorem d_Tree_init_16 : decode Y_Tree_init.2.1 16 = .ok (.new 18, 3) := by decide +kernel
theorem d_Tree_init_19 : decode Y_Tree_init.2.1 19 = .ok (.dup, 1) := by decide +kernel
theorem d_Tree_init_20 : decode Y_Tree_init.2.1 20 = .ok (.invokespecial 20, 3) := by decide +kernel
theorem d_Tree_init_23 : decode Y_Tree_init.2.1 23 = .ok (.putfield 21, 3) := by decide +kernel
theorem d_Tree_init_26 : decode Y_Tree_init.2.1 26 = .ok (.aload_n 0, 1) := by decide +kernel
theorem d_Tree_init_27 : decode Y_Tree_init.2.1 27 = .ok (.new 25, 3) := by decide +kernel
theorem d_Tree_init_30 : decode Y_Tree_init.2.1 30 = .ok (.dup, 1) := by decide +kernel
theorem d_Tree_init_31 : decode Y_Tree_init.2.1 31 = .ok (.invokespecial 27, 3) := by decide +kernel
theorem d_Tree_init_34 : decode Y_Tree_init.2.1 34 = .ok (.putfield 28, 3) := by decide +kernel
theorem d_Tree_init_37 : decode Y_Tree_init.2.1 37 = .ok (.aload_n 0, 1) := by decide +kernel
theorem d_Tree_init_38 : decode Y_Tree_init.2.1 38 = .ok (.sipush 800, 3) := by decide +kernel
theorem d_Tree_init_41 : decode Y_Tree_init.2.1 41 = .ok (.newarray .int, 2) := by decide +kernel
theorem d_Tree_init_43 : decode Y_Tree_init.2.1 43 = .ok (.putfield 32, 3) := by decide +kernel
theorem d_Tree_init_46 : decode Y_Tree_init.2.1 46 = .ok (.aload_n 0, 1) := by decide +kernel
theorem d_Tree_init_47 : decode Y_Tree_init.2.1 47 = .ok (.sipush 6402, 3) := by decide +kernel
theorem d_Tree_init_50 : decode Y_Tree_init.2.1 50 = .ok (.newarray .int, 2) := by decide +kernel
theorem d_Tree_init_52 : decode Y_Tree_init.2.1 52 = .ok (.putfield 36, 3) := by decide +kernel
theorem d_Tree_init_55 : decode Y_Tree_init.2.1 55 = .ok (.aload_n 0, 1) := by decide +kernel
theorem d_Tree_init_56 : decode Y_Tree_init.2.1 56 = .ok (.aload_n 1, 1) := by decide +kernel
theorem d_Tree_init_57 : decode Y_Tree_init.2.1 57 = .ok (.putfield 39, 3) := by decide +kernel
theorem d_Tree_init_60 : decode Y_Tree_init.2.1 60 = .ok (.aload_n 0, 1) := by decide +kernel
theorem d_Tree_init_61 : decode Y_Tree_init.2.1 61 = .ok (.aload_n 2, 1) := by decide +kernel
theorem d_Tree_init_62 : decode Y_Tree_init.2.1 62 = .ok (.putfield 43, 3) := by decide +kernel
theorem d_Tree_init_65 : decode Y_Tree_init.2.1 65 = .ok (.return_, 1) := by decide +kernel
theorem d_Passage_init_0 : decode Y_Passage_init.2.1 0 = .ok (.aload_n 0, 1) := by decide +kernel
theorem d_Passage_init_1 : decode Y_Passage_init.2.1 1 = .ok (.invokespecial 3, 3) := by decide +kernel
theorem d_Passage_init_4 : decode Y_Passage_init.2.1 4 = .ok (.aload_n 0, 1) := by decide +kernel
theorem d_Passage_init_5 : decode Y_Passage_init.2.1 5 = .ok (.bipush 60, 2) := by decide +kernel
theorem d_Passage_init_7 : decode Y_Passage_init.2.1 7 = .ok (.newarray .int, 2) := by decide +kernel
theorem d_Passage_init_9 : decode Y_Passage_init.2.1 9 = .ok (.putfield 9, 3) := by decide +kernel
theorem d_Passage_init_12 : decode Y_Passage_init.2.1 12 = .ok (.aload_n 0, 1) := by decide +kernel
theorem d_Passage_init_13 : decode Y_Passage_init.2.1 13 = .ok (.bipush 8, 2) := by decide +kernel
theorem d_Passage_init_15 : decode Y_Passage_init.2.1 15 = .ok (.anewarray 15, 3) := by decide +kernel
theorem d_Passage_init_18 : decode Y_Passage_init.2.1 18 = .ok (.putfield 17, 3) := by decide +kernel
theorem d_Passage_init_21 : decode Y_Passage_init.2.1 21 = .ok (.aload_n 0, 1) := by decide +kernel
theorem d_Passage_init_22 : decode Y_Passage_init.2.1 22 = .ok (.new 21, 3) := by decide +kernel
theorem d_Passage_init_25 : decode Y_Passage_init.2.1 25 = .ok (.dup, 1) := by decide +kernel
theorem d_Passage_init_26 : decode Y_Passage_init.2.1 26 = .ok (.invokespecial 23, 3) := by decide +kernel
theorem d_Passage_init_29 : decode Y_Passage_init.2.1 29 = .ok (.putfield 24, 3) := by decide +kernel
theorem d_Passage_init_32 : decode Y_Passage_init.2.1 32 = .ok (.return_, 1) := by decide +kernel
theorem d_Mill_init_0 : decode Y_Mill_init.2.1 0 = .ok (.aload_n 0, 1) := by decide +kernel
theorem d_Mill_init_1 : decode Y_Mill_init.2.1 1 = .ok (.invokespecial 3, 3) := by decide +kernel
theorem d_Mill_init_4 : decode Y_Mill_init.2.1 4 = .ok (.new 9, 3) := by decide +kernel
theorem d_Mill_init_7 : decode Y_Mill_init.2.1 7 = .ok (.dup, 1) := by decide +kernel
theorem d_Mill_init_8 : decode Y_Mill_init.2.1 8 = .ok (.invokespecial 11, 3) := by decide +kernel
theorem d_Mill_init_11 : decode Y_Mill_init.2.1 11 = .ok (.astore_n 1, 1) := by decide +kernel
theorem d_Mill_init_12 : decode Y_Mill_init.2.1 12 = .ok (.new 12, 3) := by decide +kernel
theorem d_Mill_init_15 : decode Y_Mill_init.2.1 15 = .ok (.dup, 1) := by decide +kernel
theorem d_Mill_init_16 : decode Y_Mill_init.2.1 16 = .ok (.invokespecial 14, 3) := by decide +kernel
theorem d_Mill_init_19 : decode Y_Mill_init.2.1 19 = .ok (.astore_n 2, 1) := by decide +kernel
theorem d_Mill_init_20 : decode Y_Mill_init.2.1 20 = .ok (.aload_n 0, 1) := by decide +kernel
theorem d_Mill_init_21 : decode Y_Mill_init.2.1 21 = .ok (.aload_n 1, 1) := by decide +kernel
theorem d_Mill_init_22 : decode Y_Mill_init.2.1 22 = .ok (.putfield 15, 3) := by decide +kernel
theorem d_Mill_init_25 : decode Y_Mill_init.2.1 25 = .ok (.aload_n 0, 1) := by decide +kernel
theorem d_Mill_init_26 : decode Y_Mill_init.2.1 26 = .ok (.aload_n 2, 1) := by decide +kernel
theorem d_Mill_init_27 : decode Y_Mill_init.2.1 27 = .ok (.putfield 19, 3) := by decide +kernel
theorem d_Mill_init_30 : decode Y_Mill_init.2.1 30 = .ok (.aload_n 0, 1) := by decide +kernel
theorem d_Mill_init_31 : decode Y_Mill_init.2.1 31 = .ok (.new 23, 3) := by decide +kernel
theorem d_Mill_init_34 : decode Y_Mill_init.2.1 34 = .ok (.dup, 1) := by decide +kernel
theorem d_Mill_init_35 : decode Y_Mill_init.2.1 35 = .ok (.invokespecial 25, 3) := by decide +kernel
theorem d_Mill_init_38 : decode Y_Mill_init.2.1 38 = .ok (.putfield 26, 3) := by decide +kernel
theorem d_Mill_init_41 : decode Y_Mill_init.2.1 41 = .ok (.aload_n 0, 1) := by decide +kernel
theorem d_Mill_init_42 : decode Y_Mill_init.2.1 42 = .ok (.new 23, 3) := by decide +kernel
theorem d_Mill_init_45 : decode Y_Mill_init.2.1 45 = .ok (.dup, 1) := by decide +kernel
theorem d_Mill_init_46 : decode Y_Mill_init.2.1 46 = .ok (.invokespecial 25, 3) := by decide +kernel
theorem d_Mill_init_49 : decode Y_Mill_init.2.1 49 = .ok (.putfield 30, 3) := by decide +kernel
theorem d_Mill_init_52 : decode Y_Mill_init.2.1 52 = .ok (.aload_n 0, 1) := by decide +kernel
theorem d_Mill_init_53 : decode Y_Mill_init.2.1 53 = .ok (.new 33, 3) := by decide +kernel
theorem d_Mill_init_56 : decode Y_Mill_init.2.1 56 = .ok (.dup, 1) := by decide +kernel
theorem d_Mill_init_57 : decode Y_Mill_init.2.1 57 = .ok (.aload_n 1, 1) := by decide +kernel
theorem d_Mill_init_58 : decode Y_Mill_init.2.1 58 = .ok (.aload_n 2, 1) := by decide +kernel
theorem d_Mill_init_59 : decode Y_Mill_init.2.1 59 = .ok (.invokespecial 35, 3) := by decide +kernel
theorem d_Mill_init_62 : decode Y_Mill_init.2.1 62 = .ok (.putfield 38, 3) := by decide +kernel
theorem d_Mill_init_65 : decode Y_Mill_init.2.1 65 = .ok (.aload_n 0, 1) := by decide +kernel
theorem d_Mill_init_66 : decode Y_Mill_init.2.1 66 = .ok (.new 42, 3) := by decide +kernel
theorem d_Mill_init_69 : decode Y_Mill_init.2.1 69 = .ok (.dup, 1) := by decide +kernel
theorem d_Mill_init_70 : decode Y_Mill_init.2.1 70 = .ok (.invokespecial 44, 3) := by decide +kernel
theorem d_Mill_init_73 : decode Y_Mill_init.2.1 73 = .ok (.putfield 45, 3) := by decide +kernel
theorem d_Mill_init_76 : decode Y_Mill_init.2.1 76 = .ok (.return_, 1) := by decide +kernel
theorem d_Row_init_0 : decode Y_Row_init.2.1 0 = .ok (.aload_n 0, 1) := by decide +kernel
theorem d_Row_init_1 : decode Y_Row_init.2.1 1 = .ok (.invokespecial 3, 3) := by decide +kernel
theorem d_Row_init_4 : decode Y_Row_init.2.1 4 = .ok (.aload_n 0, 1) := by decide +kernel
theorem d_Row_init_5 : decode Y_Row_init.2.1 5 = .ok (.bipush 24, 2) := by decide +kernel
theorem d_Row_init_7 : decode Y_Row_init.2.1 7 = .ok (.newarray .int, 2) := by decide +kernel
theorem d_Row_init_9 : decode Y_Row_init.2.1 9 = .ok (.putfield 9, 3) := by decide +kernel
theorem d_Row_init_12 : decode Y_Row_init.2.1 12 = .ok (.aload_n 0, 1) := by decide +kernel
theorem d_Row_init_13 : decode Y_Row_init.2.1 13 = .ok (.bipush 24, 2) := by decide +kernel
theorem d_Row_init_15 : decode Y_Row_init.2.1 15 = .ok (.anewarray 15, 3) := by decide +kernel
theorem d_Row_init_18 : decode Y_Row_init.2.1 18 = .ok (.putfield 17, 3) := by decide +kernel
theorem d_Row_init_21 : decode Y_Row_init.2.1 21 = .ok (.aload_n 0, 1) := by decide +kernel
theorem d_Row_init_22 : decode Y_Row_init.2.1 22 = .ok (.bipush 8, 2) := by decide +kernel
theorem d_Row_init_24 : decode Y_Row_init.2.1 24 = .ok (.newarray .int, 2) := by decide +kernel
theorem d_Row_init_26 : decode Y_Row_init.2.1 26 = .ok (.putfield 21, 3) := by decide +kernel
theorem d_Row_init_29 : decode Y_Row_init.2.1 29 = .ok (.return_, 1) := by decide +kernel
theorem d_Question_init_0 : decode Y_Question_init.2.1 0 = .ok (.aload_n 0, 1) := by decide +kernel
theorem d_Question_init_1 : decode Y_Question_init.2.1 1 = .ok (.invokespecial 1, 3) := by decide +kernel
theorem d_Question_init_4 : decode Y_Question_init.2.1 4 = .ok (.return_, 1) := by decide +kernel
theorem d_Place_init_0 : decode Y_Place_init.2.1 0 = .ok (.aload_n 0, 1) := by decide +kernel
theorem d_Place_init_1 : decode Y_Place_init.2.1 1 = .ok (.invokespecial 3, 3) := by decide +kernel
theorem d_Place_init_4 : decode Y_Place_init.2.1 4 = .ok (.return_, 1) := by decide +kernel
theorem gUp_self {G : gS} {a : Nat} {x : va_E} (h : G.1 a = some x) : gUp G a x = G := by
  obtain ⟨M, n, s⟩ := G
  simp only [gUp]
  congr 1
  funext q
  by_cases hq : q = a
  · subst hq; simp [va_up]; exact h.symm
  · simp [va_up, hq]
theorem gUp_up {G : gS} {a : Nat} {x y : va_E} : gUp (gUp G a x) a y = gUp G a y := by simp [gUp, bx_uu]
/-- the first n places hold v -/
def fillF (f : Nat → Int32) (n : Nat) (v : Int32) : Nat → Int32 := fun j => if j < n then v else f j
theorem fillF_0 (f : Nat → Int32) (v : Int32) : fillF f 0 v = f := by funext j; simp [fillF]
theorem fillF_s (f : Nat → Int32) (n : Nat) (v : Int32) : upd (fillF f n v) n v = fillF f (n + 1) v := by
  funext j
  simp only [upd, fillF]
  by_cases h : j = n
  · subst h; simp
  · rw [if_neg h]
    by_cases h2 : j < n
    · rw [if_pos h2, if_pos (by omega)]
    · rw [if_neg h2, if_neg (by omega)]
section CT
variable {E : gE} {d : Nat} {G : gS}
set_option maxHeartbeats 4000000 in
set_option maxRecDepth 100000 in
theorem m_Arrays_fill_loop {a N : Nat} {f : Nat → Int32} (h : G.1 a = some (gAI E N f)) (hN : N < 2 ^ 31) (v : Int32) : ∀ (m k : Nat), N + 1 ≤ k + m → k ≤ N → GT E Y_Arrays_fill d G 5 [(0, .ref a), (1, .int v), (2, .int (nI k)), (3, .int (nI N))] [] (gUp G a (gAI E N (fillF f k v))) (rIs none (gUp G a (gAI E N (fillF f N v)))) := by
  intro m
  induction m with
  | zero => intro k h1 h2; omega
  | succ m ih =>
    intro k hm hkN
    have h1 := gUp_at (x := gAI E N (fillF f k v)) h
    refine g_iload_n d_Arrays_fill_5 rfl ?_
    refine g_iload_n d_Arrays_fill_6 rfl ?_
    refine g_icmp_ge (tgt := 20) d_Arrays_fill_7 (by decide) (fun c_7 => ?_) (fun c_7 => ?_)
    · refine g_vret rfl d_Arrays_fill_20 ?_
      have e : k = N := by have := (le_hi (nI_hi hN) (nI_hi (by omega))).mp c_7; omega
      subst e
      exact ⟨rfl, rfl⟩
    · have hk : k < N := Nat.not_le.mp (fun q => c_7 ((le_hi (nI_hi hN) (nI_hi (by omega))).mpr q))
      refine g_aload_n d_Arrays_fill_10 rfl ?_
      refine g_iload_n d_Arrays_fill_11 rfl ?_
      refine g_iload_n d_Arrays_fill_12 rfl ?_
      refine g_iast h1 (nI_hi (by omega)) hk d_Arrays_fill_13 ?_
      have h1_u1 := gUp_at (x := (gAI E N (upd (fillF f k v) (k) (v)))) h1
      refine g_iinc (v := nI k + 1) d_Arrays_fill_14 rfl (by rfl) (by decide) rfl ?_
      refine g_goto (tgt := 5) d_Arrays_fill_17 (by decide) ?_
      rw [fillF_s] at h1_u1
      rw [gUp_up, fillF_s]
      rw [nI_1]
      exact ih (k + 1) (by omega) (by omega)
set_option maxHeartbeats 4000000 in
set_option maxRecDepth 100000 in
theorem m_Arrays_fill {a N : Nat} {f : Nat → Int32} (h : G.1 a = some (gAI E N f)) (hN : N < 2 ^ 31) (v : Int32) : GM E Y_Arrays_fill d [.ref a, .int v] G (rIs none (gUp G a (gAI E N (fillF f N v)))) := by
  refine g_entry (by decide) (by simp [Value.category]) (Nat.le_of_ble_eq_true rfl) ?_
  refine g_iconst (v := 0) d_Arrays_fill_0 (by decide) ?_
  refine g_istore_n d_Arrays_fill_1 (by decide) rfl ?_
  refine g_aload_n d_Arrays_fill_2 rfl ?_
  refine g_ilen h rfl d_Arrays_fill_3 ?_
  refine g_istore_n d_Arrays_fill_4 (by decide) rfl ?_
  have K := m_Arrays_fill_loop (d := d) h hN v (N + 1) 0 (by omega) (by omega)
  rw [fillF_0, gUp_self h] at K
  exact K
set_option maxHeartbeats 4000000 in
set_option maxRecDepth 100000 in
theorem m_Pile_init {a n sl : Nat} (ha : G.1 a = some (.inr (3, [.null, .int (0)]))) (hn : G.2.1 = n) (hs : G.2.2 = sl) (hlt : a < n) (hc : n + 1 ≤ E.1.heap.size + room_1.cells) (hr : sl + 40 ≤ room_1.slots) : GM E Y_Pile_init (d + 1) [.ref a] G (rPost none (fun G' => G'.2.1 = n + 1 ∧ G'.2.2 = sl + 40 ∧ gKeep n a G G' ∧ G'.1 (a) = some (.inr (3, [.ref (n), .int (0)])) ∧ G'.1 (n) = some (gAT E 40 (fun _ => none)))) := by
  refine g_entry (by decide) (by simp [Value.category]) (Nat.le_of_ble_eq_true rfl) ?_
  have z0 : G.2.1 = n := hn
  have s0 : G.2.2 = sl := hs
  have k0 : gKeep n a G G := gKeep.rf
  refine g_aload_n d_Pile_init_0 rfl ?_
  refine g_objInit ml_Pile_3 w_objI w_objC (Nat.le_of_ble_eq_true rfl) d_Pile_init_1 ?_
  refine g_aload_n d_Pile_init_4 rfl ?_
  refine g_bipush (v := 40) d_Pile_init_5 (by decide +kernel) ?_
  refine g_newT (N := 40) cl_Pile_9 wo_Term (by decide +kernel) (by decide +kernel) (by omega) (by omega) d_Pile_init_7 ?_
  rw [z0]
  have z1 : (gNew G (gAT E 40 (fun _ => none)) 40).2.1 = n + 1 := by show G.2.1 + 1 = _; omega
  have s1 : (gNew G (gAT E 40 (fun _ => none)) 40).2.2 = sl + 40 := by show G.2.2 + 40 = _; omega
  have k1 := k0.new (x := (gAT E 40 (fun _ => none))) (n := 40) (by omega)
  have ha := gNew_ne (x := (gAT E 40 (fun _ => none))) (n := 40) ha (by omega)
  have h0 : (gNew G (gAT E 40 (fun _ => none)) 40).1 (n) = some (gAT E 40 (fun _ => none)) := by rw [← z0]; exact gNew_at
  generalize gNew G (gAT E 40 (fun _ => none)) 40 = G1 at z1 s1 k1 ha h0 ⊢
  clear z0 s0 k0
  refine g_putF (fs' := [.ref (n), .int (0)]) kc_Pile fl_Pile_11 (by decide) ha rfl rfl rfl rfl rfl (Nat.le_of_ble_eq_true rfl) rfl d_Pile_init_10 ?_
  have z2 : (gUp G1 (a) (.inr (3, [.ref (n), .int (0)]))).2.1 = n + 1 := z1
  have s2 : (gUp G1 (a) (.inr (3, [.ref (n), .int (0)]))).2.2 = sl + 40 := s1
  have k2 := k1.up (x := (.inr (3, [.ref (n), .int (0)]))) (b := a) (Or.inl rfl)
  have h0 := gUp_ne (x := (.inr (3, [.ref (n), .int (0)]))) (a := a) h0 (Nat.ne_of_lt (Nat.lt_of_lt_of_le hlt (Nat.le_add_right n 0)))
  have ha := gUp_at (x := (.inr (3, [.ref (n), .int (0)]))) ha
  generalize gUp G1 (a) (.inr (3, [.ref (n), .int (0)])) = G2 at z2 s2 k2 ha h0 ⊢
  clear z1 s1 k1
  refine g_vret rfl d_Pile_init_13 ?_
  exact ⟨rfl, z2, s2, k2, ha, h0⟩
set_option maxHeartbeats 4000000 in
set_option maxRecDepth 100000 in
theorem m_Cases_init {a n sl : Nat} (ha : G.1 a = some (.inr (1, [.null, .null, .int (0)]))) (hn : G.2.1 = n) (hs : G.2.2 = sl) (hlt : a < n) (hc : n + 2 ≤ E.1.heap.size + room_1.cells) (hr : sl + 40 ≤ room_1.slots) : GM E Y_Cases_init (d + 1) [.ref a] G (rPost none (fun G' => G'.2.1 = n + 2 ∧ G'.2.2 = sl + 40 ∧ gKeep n a G G' ∧ G'.1 (a) = some (.inr (1, [.ref (n), .ref (n + 1), .int (0)])) ∧ G'.1 (n) = some (gAT E 20 (fun _ => none)) ∧ G'.1 (n + 1) = some (gAZ E 20 (fun _ => 0)))) := by
  refine g_entry (by decide) (by simp [Value.category]) (Nat.le_of_ble_eq_true rfl) ?_
  have z0 : G.2.1 = n := hn
  have s0 : G.2.2 = sl := hs
  have k0 : gKeep n a G G := gKeep.rf
  refine g_aload_n d_Cases_init_0 rfl ?_
  refine g_objInit ml_Cases_3 w_objI w_objC (Nat.le_of_ble_eq_true rfl) d_Cases_init_1 ?_
  refine g_aload_n d_Cases_init_4 rfl ?_
  refine g_bipush (v := 20) d_Cases_init_5 (by decide +kernel) ?_
  refine g_newT (N := 20) cl_Cases_9 wo_Term (by decide +kernel) (by decide +kernel) (by omega) (by omega) d_Cases_init_7 ?_
  rw [z0]
  have z1 : (gNew G (gAT E 20 (fun _ => none)) 20).2.1 = n + 1 := by show G.2.1 + 1 = _; omega
  have s1 : (gNew G (gAT E 20 (fun _ => none)) 20).2.2 = sl + 20 := by show G.2.2 + 20 = _; omega
  have k1 := k0.new (x := (gAT E 20 (fun _ => none))) (n := 20) (by omega)
  have ha := gNew_ne (x := (gAT E 20 (fun _ => none))) (n := 20) ha (by omega)
  have h0 : (gNew G (gAT E 20 (fun _ => none)) 20).1 (n) = some (gAT E 20 (fun _ => none)) := by rw [← z0]; exact gNew_at
  generalize gNew G (gAT E 20 (fun _ => none)) 20 = G1 at z1 s1 k1 ha h0 ⊢
  clear z0 s0 k0
  refine g_putF (fs' := [.ref (n), .null, .int (0)]) kc_Cases fl_Cases_11 (by decide) ha rfl rfl rfl rfl rfl (Nat.le_of_ble_eq_true rfl) rfl d_Cases_init_10 ?_
  have z2 : (gUp G1 (a) (.inr (1, [.ref (n), .null, .int (0)]))).2.1 = n + 1 := z1
  have s2 : (gUp G1 (a) (.inr (1, [.ref (n), .null, .int (0)]))).2.2 = sl + 20 := s1
  have k2 := k1.up (x := (.inr (1, [.ref (n), .null, .int (0)]))) (b := a) (Or.inl rfl)
  have h0 := gUp_ne (x := (.inr (1, [.ref (n), .null, .int (0)]))) (a := a) h0 (Nat.ne_of_lt (Nat.lt_of_lt_of_le hlt (Nat.le_add_right n 0)))
  have ha := gUp_at (x := (.inr (1, [.ref (n), .null, .int (0)]))) ha
  generalize gUp G1 (a) (.inr (1, [.ref (n), .null, .int (0)])) = G2 at z2 s2 k2 ha h0 ⊢
  clear z1 s1 k1
  refine g_aload_n d_Cases_init_13 rfl ?_
  refine g_bipush (v := 20) d_Cases_init_14 (by decide +kernel) ?_
  refine g_newZ (N := 20) wa_boolean (by decide +kernel) (by decide +kernel) (by omega) (by omega) d_Cases_init_16 ?_
  rw [z2]
  have z3 : (gNew G2 (gAZ E 20 (fun _ => 0)) 20).2.1 = n + 2 := by show G2.2.1 + 1 = _; omega
  have s3 : (gNew G2 (gAZ E 20 (fun _ => 0)) 20).2.2 = sl + 40 := by show G2.2.2 + 20 = _; omega
  have k3 := k2.new (x := (gAZ E 20 (fun _ => 0))) (n := 20) (by omega)
  have ha := gNew_ne (x := (gAZ E 20 (fun _ => 0))) (n := 20) ha (by omega)
  have h0 := gNew_ne (x := (gAZ E 20 (fun _ => 0))) (n := 20) h0 (by omega)
  have h1 : (gNew G2 (gAZ E 20 (fun _ => 0)) 20).1 (n + 1) = some (gAZ E 20 (fun _ => 0)) := by rw [← z2]; exact gNew_at
  generalize gNew G2 (gAZ E 20 (fun _ => 0)) 20 = G3 at z3 s3 k3 ha h0 h1 ⊢
  clear z2 s2 k2
  refine g_putF (fs' := [.ref (n), .ref (n + 1), .int (0)]) kc_Cases fl_Cases_17 (by decide) ha rfl rfl rfl rfl rfl (Nat.le_of_ble_eq_true rfl) rfl d_Cases_init_18 ?_
  have z4 : (gUp G3 (a) (.inr (1, [.ref (n), .ref (n + 1), .int (0)]))).2.1 = n + 2 := z3
  have s4 : (gUp G3 (a) (.inr (1, [.ref (n), .ref (n + 1), .int (0)]))).2.2 = sl + 40 := s3
  have k4 := k3.up (x := (.inr (1, [.ref (n), .ref (n + 1), .int (0)]))) (b := a) (Or.inl rfl)
  have h0 := gUp_ne (x := (.inr (1, [.ref (n), .ref (n + 1), .int (0)]))) (a := a) h0 (Nat.ne_of_lt (Nat.lt_of_lt_of_le hlt (Nat.le_add_right n 0)))
  have h1 := gUp_ne (x := (.inr (1, [.ref (n), .ref (n + 1), .int (0)]))) (a := a) h1 (Nat.ne_of_lt (Nat.lt_of_lt_of_le hlt (Nat.le_add_right n 1)))
  have ha := gUp_at (x := (.inr (1, [.ref (n), .ref (n + 1), .int (0)]))) ha
  generalize gUp G3 (a) (.inr (1, [.ref (n), .ref (n + 1), .int (0)])) = G4 at z4 s4 k4 ha h0 h1 ⊢
  clear z3 s3 k3
  refine g_vret rfl d_Cases_init_21 ?_
  exact ⟨rfl, z4, s4, k4, ha, h0, h1⟩
set_option maxHeartbeats 4000000 in
set_option maxRecDepth 100000 in
theorem m_AbstractCollection_init {a n sl : Nat} (ha : G.1 a = some (.inr (0, [.int (0), .null, .int (0)]))) (hn : G.2.1 = n) (hs : G.2.2 = sl) (hlt : a < n) (hc : n + 0 ≤ E.1.heap.size + room_1.cells) (hr : sl + 0 ≤ room_1.slots) : GM E Y_AbstractCollection_init (d + 1) [.ref a] G (rPost none (fun G' => G'.2.1 = n + 0 ∧ G'.2.2 = sl + 0 ∧ gKeep n a G G' ∧ G'.1 (a) = some (.inr (0, [.int (0), .null, .int (0)])))) := by
  refine g_entry (by decide) (by simp [Value.category]) (Nat.le_of_ble_eq_true rfl) ?_
  have z0 : G.2.1 = n := hn
  have s0 : G.2.2 = sl := hs
  have k0 : gKeep n a G G := gKeep.rf
  refine g_aload_n d_AbstractCollection_init_0 rfl ?_
  refine g_objInit ml_AbstractCollection_1 w_objI w_objC (Nat.le_of_ble_eq_true rfl) d_AbstractCollection_init_1 ?_
  refine g_vret rfl d_AbstractCollection_init_4 ?_
  exact ⟨rfl, z0, s0, k0, ha⟩
set_option maxHeartbeats 4000000 in
set_option maxRecDepth 100000 in
theorem m_AbstractList_init {a n sl : Nat} (ha : G.1 a = some (.inr (0, [.int (0), .null, .int (0)]))) (hn : G.2.1 = n) (hs : G.2.2 = sl) (hlt : a < n) (hc : n + 0 ≤ E.1.heap.size + room_1.cells) (hr : sl + 0 ≤ room_1.slots) : GM E Y_AbstractList_init (d + 2) [.ref a] G (rPost none (fun G' => G'.2.1 = n + 0 ∧ G'.2.2 = sl + 0 ∧ gKeep n a G G' ∧ G'.1 (a) = some (.inr (0, [.int (0), .null, .int (0)])))) := by
  refine g_entry (by decide) (by simp [Value.category]) (Nat.le_of_ble_eq_true rfl) ?_
  have z0 : G.2.1 = n := hn
  have s0 : G.2.2 = sl := hs
  have k0 : gKeep n a G G := gKeep.rf
  refine g_aload_n d_AbstractList_init_0 rfl ?_
  refine c_Ix (as := []) kn_AbstractCollection_init ml_AbstractList_1 (m_AbstractCollection_init ha z0 s0 (by omega) (by omega) (by omega)) rfl (Nat.le_of_ble_eq_true rfl) rfl d_AbstractList_init_1 rfl (fun G1 hq => ?_)
  obtain ⟨z1, s1, kk, ha⟩ := hq
  have k1 := k0.then kk (by omega) (Or.inl rfl)
  have z1 : G1.2.1 = n := by omega
  have s1 : G1.2.2 = sl + 0 := by omega
  have ha : G1.1 (a) = some (.inr (0, [.int (0), .null, .int (0)])) := ha
  clear z0 s0 k0 kk
  refine g_aload_n d_AbstractList_init_4 rfl ?_
  refine g_iconst (v := 0) d_AbstractList_init_5 (by decide +kernel) ?_
  refine g_putf (fs' := [.int (0), .null, .int (0)]) kc_ArrayList fl_AbstractList_7 (by decide) ha rfl rfl rfl (Nat.le_of_ble_eq_true rfl) rfl d_AbstractList_init_6 ?_
  have z2 : (gUp G1 (a) (.inr (0, [.int (0), .null, .int (0)]))).2.1 = n := z1
  have s2 : (gUp G1 (a) (.inr (0, [.int (0), .null, .int (0)]))).2.2 = sl + 0 := s1
  have k2 := k1.up (x := (.inr (0, [.int (0), .null, .int (0)]))) (b := a) (Or.inl rfl)
  have ha := gUp_at (x := (.inr (0, [.int (0), .null, .int (0)]))) ha
  generalize gUp G1 (a) (.inr (0, [.int (0), .null, .int (0)])) = G2 at z2 s2 k2 ha ⊢
  clear z1 s1 k1
  refine g_vret rfl d_AbstractList_init_9 ?_
  exact ⟨rfl, z2, s2, k2, ha⟩
set_option maxHeartbeats 4000000 in
set_option maxRecDepth 100000 in
theorem m_ArrayList_init {a n sl : Nat} (ha : G.1 a = some (.inr (0, [.int (0), .null, .int (0)]))) (hn : G.2.1 = n) (hs : G.2.2 = sl) (hlt : a < n) (hc : n + 0 ≤ E.1.heap.size + room_1.cells) (hr : sl + 0 ≤ room_1.slots) : GM E Y_ArrayList_init (d + 3) [.ref a] G (rPost none (fun G' => G'.2.1 = n + 0 ∧ G'.2.2 = sl + 0 ∧ gKeep n a G G' ∧ G'.1 (a) = some (.inr (0, [.int (0), .ref (gDef E), .int (0)])))) := by
  refine g_entry (by decide) (by simp [Value.category]) (Nat.le_of_ble_eq_true rfl) ?_
  have z0 : G.2.1 = n := hn
  have s0 : G.2.2 = sl := hs
  have k0 : gKeep n a G G := gKeep.rf
  refine g_aload_n d_ArrayList_init_0 rfl ?_
  refine c_Ix (as := []) kn_AbstractList_init ml_ArrayList_1 (m_AbstractList_init ha z0 s0 (by omega) (by omega) (by omega)) rfl (Nat.le_of_ble_eq_true rfl) rfl d_ArrayList_init_1 rfl (fun G1 hq => ?_)
  obtain ⟨z1, s1, kk, ha⟩ := hq
  have k1 := k0.then kk (by omega) (Or.inl rfl)
  have z1 : G1.2.1 = n := by omega
  have s1 : G1.2.2 = sl + 0 := by omega
  have ha : G1.1 (a) = some (.inr (0, [.int (0), .null, .int (0)])) := ha
  clear z0 s0 k0 kk
  refine g_aload_n d_ArrayList_init_4 rfl ?_
  refine g_getDef w_defF d_ArrayList_init_5 ?_
  refine g_putf (fs' := [.int (0), .ref (gDef E), .int (0)]) kc_ArrayList fl_ArrayList_9 (by decide) ha rfl rfl rfl (Nat.le_of_ble_eq_true rfl) rfl d_ArrayList_init_8 ?_
  have z2 : (gUp G1 (a) (.inr (0, [.int (0), .ref (gDef E), .int (0)]))).2.1 = n := z1
  have s2 : (gUp G1 (a) (.inr (0, [.int (0), .ref (gDef E), .int (0)]))).2.2 = sl + 0 := s1
  have k2 := k1.up (x := (.inr (0, [.int (0), .ref (gDef E), .int (0)]))) (b := a) (Or.inl rfl)
  have ha := gUp_at (x := (.inr (0, [.int (0), .ref (gDef E), .int (0)]))) ha
  generalize gUp G1 (a) (.inr (0, [.int (0), .ref (gDef E), .int (0)])) = G2 at z2 s2 k2 ha ⊢
  clear z1 s1 k1
  refine g_vret rfl d_ArrayList_init_11 ?_
  exact ⟨rfl, z2, s2, k2, ha⟩
set_option maxHeartbeats 4000000 in
set_option maxRecDepth 100000 in
theorem m_Rows_init {a n sl : Nat} (ha : G.1 a = some (.inr (8, [.null, .int (0)]))) (hn : G.2.1 = n) (hs : G.2.2 = sl) (hlt : a < n) (hc : n + 1 ≤ E.1.heap.size + room_1.cells) (hr : sl + 3 ≤ room_1.slots) : GM E Y_Rows_init (d + 4) [.ref a] G (rPost none (fun G' => G'.2.1 = n + 1 ∧ G'.2.2 = sl + 3 ∧ gKeep n a G G' ∧ G'.1 (a) = some (.inr (8, [.ref (n), .int (0)])) ∧ G'.1 (n) = some (.inr (0, [.int (0), .ref (gDef E), .int (0)])))) := by
  refine g_entry (by decide) (by simp [Value.category]) (Nat.le_of_ble_eq_true rfl) ?_
  have z0 : G.2.1 = n := hn
  have s0 : G.2.2 = sl := hs
  have k0 : gKeep n a G G := gKeep.rf
  refine g_aload_n d_Rows_init_0 rfl ?_
  refine g_objInit ml_Rows_3 w_objI w_objC (Nat.le_of_ble_eq_true rfl) d_Rows_init_1 ?_
  refine g_aload_n d_Rows_init_4 rfl ?_
  refine g_new kc_ArrayList cl_Rows_9 ki_ArrayList.1 ki_ArrayList.2 (fs := [.int (0), .null, .int (0)]) (by decide +kernel) (by omega) (by omega) d_Rows_init_5 ?_
  rw [z0]
  have z1 : (gNew G (.inr (0, [.int (0), .null, .int (0)])) 3).2.1 = n + 1 := by show G.2.1 + 1 = _; omega
  have s1 : (gNew G (.inr (0, [.int (0), .null, .int (0)])) 3).2.2 = sl + 3 := by show G.2.2 + 3 = _; omega
  have k1 := k0.new (x := (.inr (0, [.int (0), .null, .int (0)]))) (n := 3) (by omega)
  have ha := gNew_ne (x := (.inr (0, [.int (0), .null, .int (0)]))) (n := 3) ha (by omega)
  have h0 : (gNew G (.inr (0, [.int (0), .null, .int (0)])) 3).1 (n) = some (.inr (0, [.int (0), .null, .int (0)])) := by rw [← z0]; exact gNew_at
  generalize gNew G (.inr (0, [.int (0), .null, .int (0)])) 3 = G1 at z1 s1 k1 ha h0 ⊢
  clear z0 s0 k0
  refine g_dup d_Rows_init_8 rfl ?_
  refine c_Ix (as := []) kn_ArrayList_init ml_Rows_11 (m_ArrayList_init h0 z1 s1 (by omega) (by omega) (by omega)) rfl (Nat.le_of_ble_eq_true rfl) rfl d_Rows_init_9 rfl (fun G2 hq => ?_)
  obtain ⟨z2, s2, kk, h0⟩ := hq
  have ha := (kk _ (by omega) (Nat.ne_of_lt (Nat.lt_of_lt_of_le hlt (Nat.le_add_right n 0)))).trans ha
  have k2 := k1.then kk (by omega) (Or.inr (by omega))
  have z2 : G2.2.1 = n + 1 := by omega
  have s2 : G2.2.2 = sl + 3 := by omega
  have h0 : G2.1 (n) = some (.inr (0, [.int (0), .ref (gDef E), .int (0)])) := h0
  clear z1 s1 k1 kk
  refine g_putF (fs' := [.ref (n), .int (0)]) kc_Rows fl_Rows_12 (by decide) ha rfl rfl rfl rfl rfl (Nat.le_of_ble_eq_true rfl) rfl d_Rows_init_12 ?_
  have z3 : (gUp G2 (a) (.inr (8, [.ref (n), .int (0)]))).2.1 = n + 1 := z2
  have s3 : (gUp G2 (a) (.inr (8, [.ref (n), .int (0)]))).2.2 = sl + 3 := s2
  have k3 := k2.up (x := (.inr (8, [.ref (n), .int (0)]))) (b := a) (Or.inl rfl)
  have h0 := gUp_ne (x := (.inr (8, [.ref (n), .int (0)]))) (a := a) h0 (Nat.ne_of_lt (Nat.lt_of_lt_of_le hlt (Nat.le_add_right n 0)))
  have ha := gUp_at (x := (.inr (8, [.ref (n), .int (0)]))) ha
  generalize gUp G2 (a) (.inr (8, [.ref (n), .int (0)])) = G3 at z3 s3 k3 ha h0 ⊢
  clear z2 s2 k2
  refine g_vret rfl d_Rows_init_15 ?_
  exact ⟨rfl, z3, s3, k3, ha, h0⟩
set_option maxHeartbeats 4000000 in
set_option maxRecDepth 100000 in
theorem m_Places_init {a n sl : Nat} (ha : G.1 a = some (.inr (5, [.null, .int (0)]))) (hn : G.2.1 = n) (hs : G.2.2 = sl) (hlt : a < n) (hc : n + 1 ≤ E.1.heap.size + room_1.cells) (hr : sl + 3 ≤ room_1.slots) : GM E Y_Places_init (d + 4) [.ref a] G (rPost none (fun G' => G'.2.1 = n + 1 ∧ G'.2.2 = sl + 3 ∧ gKeep n a G G' ∧ G'.1 (a) = some (.inr (5, [.ref (n), .int (0)])) ∧ G'.1 (n) = some (.inr (0, [.int (0), .ref (gDef E), .int (0)])))) := by
  refine g_entry (by decide) (by simp [Value.category]) (Nat.le_of_ble_eq_true rfl) ?_
  have z0 : G.2.1 = n := hn
  have s0 : G.2.2 = sl := hs
  have k0 : gKeep n a G G := gKeep.rf
  refine g_aload_n d_Places_init_0 rfl ?_
  refine g_objInit ml_Places_3 w_objI w_objC (Nat.le_of_ble_eq_true rfl) d_Places_init_1 ?_
  refine g_aload_n d_Places_init_4 rfl ?_
  refine g_new kc_ArrayList cl_Places_9 ki_ArrayList.1 ki_ArrayList.2 (fs := [.int (0), .null, .int (0)]) (by decide +kernel) (by omega) (by omega) d_Places_init_5 ?_
  rw [z0]
  have z1 : (gNew G (.inr (0, [.int (0), .null, .int (0)])) 3).2.1 = n + 1 := by show G.2.1 + 1 = _; omega
  have s1 : (gNew G (.inr (0, [.int (0), .null, .int (0)])) 3).2.2 = sl + 3 := by show G.2.2 + 3 = _; omega
  have k1 := k0.new (x := (.inr (0, [.int (0), .null, .int (0)]))) (n := 3) (by omega)
  have ha := gNew_ne (x := (.inr (0, [.int (0), .null, .int (0)]))) (n := 3) ha (by omega)
  have h0 : (gNew G (.inr (0, [.int (0), .null, .int (0)])) 3).1 (n) = some (.inr (0, [.int (0), .null, .int (0)])) := by rw [← z0]; exact gNew_at
  generalize gNew G (.inr (0, [.int (0), .null, .int (0)])) 3 = G1 at z1 s1 k1 ha h0 ⊢
  clear z0 s0 k0
  refine g_dup d_Places_init_8 rfl ?_
  refine c_Ix (as := []) kn_ArrayList_init ml_Places_11 (m_ArrayList_init h0 z1 s1 (by omega) (by omega) (by omega)) rfl (Nat.le_of_ble_eq_true rfl) rfl d_Places_init_9 rfl (fun G2 hq => ?_)
  obtain ⟨z2, s2, kk, h0⟩ := hq
  have ha := (kk _ (by omega) (Nat.ne_of_lt (Nat.lt_of_lt_of_le hlt (Nat.le_add_right n 0)))).trans ha
  have k2 := k1.then kk (by omega) (Or.inr (by omega))
  have z2 : G2.2.1 = n + 1 := by omega
  have s2 : G2.2.2 = sl + 3 := by omega
  have h0 : G2.1 (n) = some (.inr (0, [.int (0), .ref (gDef E), .int (0)])) := h0
  clear z1 s1 k1 kk
  refine g_putF (fs' := [.ref (n), .int (0)]) kc_Places fl_Places_12 (by decide) ha rfl rfl rfl rfl rfl (Nat.le_of_ble_eq_true rfl) rfl d_Places_init_12 ?_
  have z3 : (gUp G2 (a) (.inr (5, [.ref (n), .int (0)]))).2.1 = n + 1 := z2
  have s3 : (gUp G2 (a) (.inr (5, [.ref (n), .int (0)]))).2.2 = sl + 3 := s2
  have k3 := k2.up (x := (.inr (5, [.ref (n), .int (0)]))) (b := a) (Or.inl rfl)
  have h0 := gUp_ne (x := (.inr (5, [.ref (n), .int (0)]))) (a := a) h0 (Nat.ne_of_lt (Nat.lt_of_lt_of_le hlt (Nat.le_add_right n 0)))
  have ha := gUp_at (x := (.inr (5, [.ref (n), .int (0)]))) ha
  generalize gUp G2 (a) (.inr (5, [.ref (n), .int (0)])) = G3 at z3 s3 k3 ha h0 ⊢
  clear z2 s2 k2
  refine g_vret rfl d_Places_init_15 ?_
  exact ⟨rfl, z3, s3, k3, ha, h0⟩
set_option maxHeartbeats 4000000 in
set_option maxRecDepth 100000 in
theorem m_Passage_init {a n sl : Nat} (ha : G.1 a = some (.inr (2, [.null, .null, .null, .int (0)]))) (hn : G.2.1 = n) (hs : G.2.2 = sl) (hlt : a < n) (hc : n + 3 ≤ E.1.heap.size + room_1.cells) (hr : sl + 71 ≤ room_1.slots) : GM E Y_Passage_init (d + 4) [.ref a] G (rPost none (fun G' => G'.2.1 = n + 3 ∧ G'.2.2 = sl + 71 ∧ gKeep n a G G' ∧ G'.1 (a) = some (.inr (2, [.ref (n), .ref (n + 1), .ref (n + 2), .int (0)])) ∧ G'.1 (n) = some (gAI E 60 (fun _ => 0)) ∧ G'.1 (n + 1) = some (gAT E 8 (fun _ => none)) ∧ G'.1 (n + 2) = some (.inr (0, [.int (0), .ref (gDef E), .int (0)])))) := by
  refine g_entry (by decide) (by simp [Value.category]) (Nat.le_of_ble_eq_true rfl) ?_
  have z0 : G.2.1 = n := hn
  have s0 : G.2.2 = sl := hs
  have k0 : gKeep n a G G := gKeep.rf
  refine g_aload_n d_Passage_init_0 rfl ?_
  refine g_objInit ml_Passage_3 w_objI w_objC (Nat.le_of_ble_eq_true rfl) d_Passage_init_1 ?_
  refine g_aload_n d_Passage_init_4 rfl ?_
  refine g_bipush (v := 60) d_Passage_init_5 (by decide +kernel) ?_
  refine g_newI (N := 60) wa_int (by decide +kernel) (by decide +kernel) (by omega) (by omega) d_Passage_init_7 ?_
  rw [z0]
  have z1 : (gNew G (gAI E 60 (fun _ => 0)) 60).2.1 = n + 1 := by show G.2.1 + 1 = _; omega
  have s1 : (gNew G (gAI E 60 (fun _ => 0)) 60).2.2 = sl + 60 := by show G.2.2 + 60 = _; omega
  have k1 := k0.new (x := (gAI E 60 (fun _ => 0))) (n := 60) (by omega)
  have ha := gNew_ne (x := (gAI E 60 (fun _ => 0))) (n := 60) ha (by omega)
  have h0 : (gNew G (gAI E 60 (fun _ => 0)) 60).1 (n) = some (gAI E 60 (fun _ => 0)) := by rw [← z0]; exact gNew_at
  generalize gNew G (gAI E 60 (fun _ => 0)) 60 = G1 at z1 s1 k1 ha h0 ⊢
  clear z0 s0 k0
  refine g_putF (fs' := [.ref (n), .null, .null, .int (0)]) kc_Passage fl_Passage_9 (by decide) ha rfl rfl rfl rfl rfl (Nat.le_of_ble_eq_true rfl) rfl d_Passage_init_9 ?_
  have z2 : (gUp G1 (a) (.inr (2, [.ref (n), .null, .null, .int (0)]))).2.1 = n + 1 := z1
  have s2 : (gUp G1 (a) (.inr (2, [.ref (n), .null, .null, .int (0)]))).2.2 = sl + 60 := s1
  have k2 := k1.up (x := (.inr (2, [.ref (n), .null, .null, .int (0)]))) (b := a) (Or.inl rfl)
  have h0 := gUp_ne (x := (.inr (2, [.ref (n), .null, .null, .int (0)]))) (a := a) h0 (Nat.ne_of_lt (Nat.lt_of_lt_of_le hlt (Nat.le_add_right n 0)))
  have ha := gUp_at (x := (.inr (2, [.ref (n), .null, .null, .int (0)]))) ha
  generalize gUp G1 (a) (.inr (2, [.ref (n), .null, .null, .int (0)])) = G2 at z2 s2 k2 ha h0 ⊢
  clear z1 s1 k1
  refine g_aload_n d_Passage_init_12 rfl ?_
  refine g_bipush (v := 8) d_Passage_init_13 (by decide +kernel) ?_
  refine g_newT (N := 8) cl_Passage_15 wo_Term (by decide +kernel) (by decide +kernel) (by omega) (by omega) d_Passage_init_15 ?_
  rw [z2]
  have z3 : (gNew G2 (gAT E 8 (fun _ => none)) 8).2.1 = n + 2 := by show G2.2.1 + 1 = _; omega
  have s3 : (gNew G2 (gAT E 8 (fun _ => none)) 8).2.2 = sl + 68 := by show G2.2.2 + 8 = _; omega
  have k3 := k2.new (x := (gAT E 8 (fun _ => none))) (n := 8) (by omega)
  have ha := gNew_ne (x := (gAT E 8 (fun _ => none))) (n := 8) ha (by omega)
  have h0 := gNew_ne (x := (gAT E 8 (fun _ => none))) (n := 8) h0 (by omega)
  have h1 : (gNew G2 (gAT E 8 (fun _ => none)) 8).1 (n + 1) = some (gAT E 8 (fun _ => none)) := by rw [← z2]; exact gNew_at
  generalize gNew G2 (gAT E 8 (fun _ => none)) 8 = G3 at z3 s3 k3 ha h0 h1 ⊢
  clear z2 s2 k2
  refine g_putF (fs' := [.ref (n), .ref (n + 1), .null, .int (0)]) kc_Passage fl_Passage_17 (by decide) ha rfl rfl rfl rfl rfl (Nat.le_of_ble_eq_true rfl) rfl d_Passage_init_18 ?_
  have z4 : (gUp G3 (a) (.inr (2, [.ref (n), .ref (n + 1), .null, .int (0)]))).2.1 = n + 2 := z3
  have s4 : (gUp G3 (a) (.inr (2, [.ref (n), .ref (n + 1), .null, .int (0)]))).2.2 = sl + 68 := s3
  have k4 := k3.up (x := (.inr (2, [.ref (n), .ref (n + 1), .null, .int (0)]))) (b := a) (Or.inl rfl)
  have h0 := gUp_ne (x := (.inr (2, [.ref (n), .ref (n + 1), .null, .int (0)]))) (a := a) h0 (Nat.ne_of_lt (Nat.lt_of_lt_of_le hlt (Nat.le_add_right n 0)))
  have h1 := gUp_ne (x := (.inr (2, [.ref (n), .ref (n + 1), .null, .int (0)]))) (a := a) h1 (Nat.ne_of_lt (Nat.lt_of_lt_of_le hlt (Nat.le_add_right n 1)))
  have ha := gUp_at (x := (.inr (2, [.ref (n), .ref (n + 1), .null, .int (0)]))) ha
  generalize gUp G3 (a) (.inr (2, [.ref (n), .ref (n + 1), .null, .int (0)])) = G4 at z4 s4 k4 ha h0 h1 ⊢
  clear z3 s3 k3
  refine g_aload_n d_Passage_init_21 rfl ?_
  refine g_new kc_ArrayList cl_Passage_21 ki_ArrayList.1 ki_ArrayList.2 (fs := [.int (0), .null, .int (0)]) (by decide +kernel) (by omega) (by omega) d_Passage_init_22 ?_
  rw [z4]
  have z5 : (gNew G4 (.inr (0, [.int (0), .null, .int (0)])) 3).2.1 = n + 3 := by show G4.2.1 + 1 = _; omega
  have s5 : (gNew G4 (.inr (0, [.int (0), .null, .int (0)])) 3).2.2 = sl + 71 := by show G4.2.2 + 3 = _; omega
  have k5 := k4.new (x := (.inr (0, [.int (0), .null, .int (0)]))) (n := 3) (by omega)
  have ha := gNew_ne (x := (.inr (0, [.int (0), .null, .int (0)]))) (n := 3) ha (by omega)
  have h0 := gNew_ne (x := (.inr (0, [.int (0), .null, .int (0)]))) (n := 3) h0 (by omega)
  have h1 := gNew_ne (x := (.inr (0, [.int (0), .null, .int (0)]))) (n := 3) h1 (by omega)
  have h2 : (gNew G4 (.inr (0, [.int (0), .null, .int (0)])) 3).1 (n + 2) = some (.inr (0, [.int (0), .null, .int (0)])) := by rw [← z4]; exact gNew_at
  generalize gNew G4 (.inr (0, [.int (0), .null, .int (0)])) 3 = G5 at z5 s5 k5 ha h0 h1 h2 ⊢
  clear z4 s4 k4
  refine g_dup d_Passage_init_25 rfl ?_
  refine c_Ix (as := []) kn_ArrayList_init ml_Passage_23 (m_ArrayList_init h2 z5 s5 (by omega) (by omega) (by omega)) rfl (Nat.le_of_ble_eq_true rfl) rfl d_Passage_init_26 rfl (fun G6 hq => ?_)
  obtain ⟨z6, s6, kk, h2⟩ := hq
  have ha := (kk _ (by omega) (Nat.ne_of_lt (Nat.lt_of_lt_of_le hlt (Nat.le_add_right n 2)))).trans ha
  have h0 := (kk _ (by omega) (Nat.ne_of_lt (Nat.add_lt_add_left (show 0 < 2 by decide) n))).trans h0
  have h1 := (kk _ (by omega) (Nat.ne_of_lt (Nat.add_lt_add_left (show 1 < 2 by decide) n))).trans h1
  have k6 := k5.then kk (by omega) (Or.inr (by omega))
  have z6 : G6.2.1 = n + 3 := by omega
  have s6 : G6.2.2 = sl + 71 := by omega
  have h2 : G6.1 (n + 2) = some (.inr (0, [.int (0), .ref (gDef E), .int (0)])) := h2
  clear z5 s5 k5 kk
  refine g_putF (fs' := [.ref (n), .ref (n + 1), .ref (n + 2), .int (0)]) kc_Passage fl_Passage_24 (by decide) ha rfl rfl rfl rfl rfl (Nat.le_of_ble_eq_true rfl) rfl d_Passage_init_29 ?_
  have z7 : (gUp G6 (a) (.inr (2, [.ref (n), .ref (n + 1), .ref (n + 2), .int (0)]))).2.1 = n + 3 := z6
  have s7 : (gUp G6 (a) (.inr (2, [.ref (n), .ref (n + 1), .ref (n + 2), .int (0)]))).2.2 = sl + 71 := s6
  have k7 := k6.up (x := (.inr (2, [.ref (n), .ref (n + 1), .ref (n + 2), .int (0)]))) (b := a) (Or.inl rfl)
  have h0 := gUp_ne (x := (.inr (2, [.ref (n), .ref (n + 1), .ref (n + 2), .int (0)]))) (a := a) h0 (Nat.ne_of_lt (Nat.lt_of_lt_of_le hlt (Nat.le_add_right n 0)))
  have h1 := gUp_ne (x := (.inr (2, [.ref (n), .ref (n + 1), .ref (n + 2), .int (0)]))) (a := a) h1 (Nat.ne_of_lt (Nat.lt_of_lt_of_le hlt (Nat.le_add_right n 1)))
  have h2 := gUp_ne (x := (.inr (2, [.ref (n), .ref (n + 1), .ref (n + 2), .int (0)]))) (a := a) h2 (Nat.ne_of_lt (Nat.lt_of_lt_of_le hlt (Nat.le_add_right n 2)))
  have ha := gUp_at (x := (.inr (2, [.ref (n), .ref (n + 1), .ref (n + 2), .int (0)]))) ha
  generalize gUp G6 (a) (.inr (2, [.ref (n), .ref (n + 1), .ref (n + 2), .int (0)])) = G7 at z7 s7 k7 ha h0 h1 h2 ⊢
  clear z6 s6 k6
  refine g_vret rfl d_Passage_init_32 ?_
  exact ⟨rfl, z7, s7, k7, ha, h0, h1, h2⟩
set_option maxHeartbeats 4000000 in
set_option maxRecDepth 100000 in
theorem m_Tree_init {aT aC : Nat} {a n sl : Nat} (ha : G.1 a = some (.inr (10, [.null, .null, .null, .null, .null, .null, .null, .int (0), .int (0), .int (0), .int (0), .int (0), .int (0), .int (0)]))) (hn : G.2.1 = n) (hs : G.2.2 = sl) (hlt : a < n) (hc : n + 7 ≤ E.1.heap.size + room_1.cells) (hr : sl + 7215 ≤ room_1.slots) : GM E Y_Tree_init (d + 5) [.ref a, .ref (aT), .ref (aC)] G (rPost none (fun G' => G'.2.1 = n + 7 ∧ G'.2.2 = sl + 7215 ∧ gKeep n a G G' ∧ G'.1 (a) = some (.inr (10, [.ref (aT), .ref (aC), .ref (n), .ref (n + 2), .ref (n + 4), .ref (n + 5), .ref (n + 6), .int (0), .int (0), .int (0), .int (0), .int (0), .int (0), .int (0)])) ∧ G'.1 (n) = some (.inr (8, [.ref (n + 1), .int (0)])) ∧ G'.1 (n + 1) = some (.inr (0, [.int (0), .ref (gDef E), .int (0)])) ∧ G'.1 (n + 2) = some (.inr (5, [.ref (n + 3), .int (0)])) ∧ G'.1 (n + 3) = some (.inr (0, [.int (0), .ref (gDef E), .int (0)])) ∧ G'.1 (n + 4) = some (.inr (0, [.int (0), .ref (gDef E), .int (0)])) ∧ G'.1 (n + 5) = some (gAI E 800 (fun _ => 0)) ∧ G'.1 (n + 6) = some (gAI E 6402 (fun _ => 0)))) := by
  refine g_entry (by decide) (by simp [Value.category]) (Nat.le_of_ble_eq_true rfl) ?_
  have z0 : G.2.1 = n := hn
  have s0 : G.2.2 = sl := hs
  have k0 : gKeep n a G G := gKeep.rf
  refine g_aload_n d_Tree_init_0 rfl ?_
  refine g_objInit ml_Tree_3 w_objI w_objC (Nat.le_of_ble_eq_true rfl) d_Tree_init_1 ?_
  refine g_aload_n d_Tree_init_4 rfl ?_
  refine g_new kc_Rows cl_Tree_9 ki_Rows.1 ki_Rows.2 (fs := [.null, .int (0)]) (by decide +kernel) (by omega) (by omega) d_Tree_init_5 ?_
  rw [z0]
  have z1 : (gNew G (.inr (8, [.null, .int (0)])) 2).2.1 = n + 1 := by show G.2.1 + 1 = _; omega
  have s1 : (gNew G (.inr (8, [.null, .int (0)])) 2).2.2 = sl + 2 := by show G.2.2 + 2 = _; omega
  have k1 := k0.new (x := (.inr (8, [.null, .int (0)]))) (n := 2) (by omega)
  have ha := gNew_ne (x := (.inr (8, [.null, .int (0)]))) (n := 2) ha (by omega)
  have h0 : (gNew G (.inr (8, [.null, .int (0)])) 2).1 (n) = some (.inr (8, [.null, .int (0)])) := by rw [← z0]; exact gNew_at
  generalize gNew G (.inr (8, [.null, .int (0)])) 2 = G1 at z1 s1 k1 ha h0 ⊢
  clear z0 s0 k0
  refine g_dup d_Tree_init_8 rfl ?_
  refine c_INx (as := []) kn_Rows_init ml_Tree_11 (m_Rows_init h0 z1 s1 (by omega) (by omega) (by omega)) rfl (Nat.le_of_ble_eq_true rfl) rfl d_Tree_init_9 rfl (fun G2 hq => ?_)
  obtain ⟨z2, s2, kk, h0, h1⟩ := hq
  have ha := (kk _ (by omega) (Nat.ne_of_lt (Nat.lt_of_lt_of_le hlt (Nat.le_add_right n 0)))).trans ha
  have k2 := k1.then kk (by omega) (Or.inr (by omega))
  have z2 : G2.2.1 = n + 2 := by omega
  have s2 : G2.2.2 = sl + 5 := by omega
  have h0 : G2.1 (n) = some (.inr (8, [.ref (n + 1), .int (0)])) := h0
  have h1 : G2.1 (n + 1) = some (.inr (0, [.int (0), .ref (gDef E), .int (0)])) := h1
  clear z1 s1 k1 kk
  refine g_putF (fs' := [.null, .null, .ref (n), .null, .null, .null, .null, .int (0), .int (0), .int (0), .int (0), .int (0), .int (0), .int (0)]) kc_Tree fl_Tree_12 (by decide) ha rfl rfl rfl rfl rfl (Nat.le_of_ble_eq_true rfl) rfl d_Tree_init_12 ?_
  have z3 : (gUp G2 (a) (.inr (10, [.null, .null, .ref (n), .null, .null, .null, .null, .int (0), .int (0), .int (0), .int (0), .int (0), .int (0), .int (0)]))).2.1 = n + 2 := z2
  have s3 : (gUp G2 (a) (.inr (10, [.null, .null, .ref (n), .null, .null, .null, .null, .int (0), .int (0), .int (0), .int (0), .int (0), .int (0), .int (0)]))).2.2 = sl + 5 := s2
  have k3 := k2.up (x := (.inr (10, [.null, .null, .ref (n), .null, .null, .null, .null, .int (0), .int (0), .int (0), .int (0), .int (0), .int (0), .int (0)]))) (b := a) (Or.inl rfl)
  have h0 := gUp_ne (x := (.inr (10, [.null, .null, .ref (n), .null, .null, .null, .null, .int (0), .int (0), .int (0), .int (0), .int (0), .int (0), .int (0)]))) (a := a) h0 (Nat.ne_of_lt (Nat.lt_of_lt_of_le hlt (Nat.le_add_right n 0)))
  have h1 := gUp_ne (x := (.inr (10, [.null, .null, .ref (n), .null, .null, .null, .null, .int (0), .int (0), .int (0), .int (0), .int (0), .int (0), .int (0)]))) (a := a) h1 (Nat.ne_of_lt (Nat.lt_of_lt_of_le hlt (Nat.le_add_right n 1)))
  have ha := gUp_at (x := (.inr (10, [.null, .null, .ref (n), .null, .null, .null, .null, .int (0), .int (0), .int (0), .int (0), .int (0), .int (0), .int (0)]))) ha
  generalize gUp G2 (a) (.inr (10, [.null, .null, .ref (n), .null, .null, .null, .null, .int (0), .int (0), .int (0), .int (0), .int (0), .int (0), .int (0)])) = G3 at z3 s3 k3 ha h0 h1 ⊢
  clear z2 s2 k2
  refine g_aload_n d_Tree_init_15 rfl ?_
  refine g_new kc_Places cl_Tree_18 ki_Places.1 ki_Places.2 (fs := [.null, .int (0)]) (by decide +kernel) (by omega) (by omega) d_Tree_init_16 ?_
  rw [z3]
  have z4 : (gNew G3 (.inr (5, [.null, .int (0)])) 2).2.1 = n + 3 := by show G3.2.1 + 1 = _; omega
  have s4 : (gNew G3 (.inr (5, [.null, .int (0)])) 2).2.2 = sl + 7 := by show G3.2.2 + 2 = _; omega
  have k4 := k3.new (x := (.inr (5, [.null, .int (0)]))) (n := 2) (by omega)
  have ha := gNew_ne (x := (.inr (5, [.null, .int (0)]))) (n := 2) ha (by omega)
  have h0 := gNew_ne (x := (.inr (5, [.null, .int (0)]))) (n := 2) h0 (by omega)
  have h1 := gNew_ne (x := (.inr (5, [.null, .int (0)]))) (n := 2) h1 (by omega)
  have h2 : (gNew G3 (.inr (5, [.null, .int (0)])) 2).1 (n + 2) = some (.inr (5, [.null, .int (0)])) := by rw [← z3]; exact gNew_at
  generalize gNew G3 (.inr (5, [.null, .int (0)])) 2 = G4 at z4 s4 k4 ha h0 h1 h2 ⊢
  clear z3 s3 k3
  refine g_dup d_Tree_init_19 rfl ?_
  refine c_INx (as := []) kn_Places_init ml_Tree_20 (m_Places_init h2 z4 s4 (by omega) (by omega) (by omega)) rfl (Nat.le_of_ble_eq_true rfl) rfl d_Tree_init_20 rfl (fun G5 hq => ?_)
  obtain ⟨z5, s5, kk, h2, h3⟩ := hq
  have ha := (kk _ (by omega) (Nat.ne_of_lt (Nat.lt_of_lt_of_le hlt (Nat.le_add_right n 2)))).trans ha
  have h0 := (kk _ (by omega) (Nat.ne_of_lt (Nat.add_lt_add_left (show 0 < 2 by decide) n))).trans h0
  have h1 := (kk _ (by omega) (Nat.ne_of_lt (Nat.add_lt_add_left (show 1 < 2 by decide) n))).trans h1
  have k5 := k4.then kk (by omega) (Or.inr (by omega))
  have z5 : G5.2.1 = n + 4 := by omega
  have s5 : G5.2.2 = sl + 10 := by omega
  have h2 : G5.1 (n + 2) = some (.inr (5, [.ref (n + 3), .int (0)])) := h2
  have h3 : G5.1 (n + 3) = some (.inr (0, [.int (0), .ref (gDef E), .int (0)])) := h3
  clear z4 s4 k4 kk
  refine g_putF (fs' := [.null, .null, .ref (n), .ref (n + 2), .null, .null, .null, .int (0), .int (0), .int (0), .int (0), .int (0), .int (0), .int (0)]) kc_Tree fl_Tree_21 (by decide) ha rfl rfl rfl rfl rfl (Nat.le_of_ble_eq_true rfl) rfl d_Tree_init_23 ?_
  have z6 : (gUp G5 (a) (.inr (10, [.null, .null, .ref (n), .ref (n + 2), .null, .null, .null, .int (0), .int (0), .int (0), .int (0), .int (0), .int (0), .int (0)]))).2.1 = n + 4 := z5
  have s6 : (gUp G5 (a) (.inr (10, [.null, .null, .ref (n), .ref (n + 2), .null, .null, .null, .int (0), .int (0), .int (0), .int (0), .int (0), .int (0), .int (0)]))).2.2 = sl + 10 := s5
  have k6 := k5.up (x := (.inr (10, [.null, .null, .ref (n), .ref (n + 2), .null, .null, .null, .int (0), .int (0), .int (0), .int (0), .int (0), .int (0), .int (0)]))) (b := a) (Or.inl rfl)
  have h0 := gUp_ne (x := (.inr (10, [.null, .null, .ref (n), .ref (n + 2), .null, .null, .null, .int (0), .int (0), .int (0), .int (0), .int (0), .int (0), .int (0)]))) (a := a) h0 (Nat.ne_of_lt (Nat.lt_of_lt_of_le hlt (Nat.le_add_right n 0)))
  have h1 := gUp_ne (x := (.inr (10, [.null, .null, .ref (n), .ref (n + 2), .null, .null, .null, .int (0), .int (0), .int (0), .int (0), .int (0), .int (0), .int (0)]))) (a := a) h1 (Nat.ne_of_lt (Nat.lt_of_lt_of_le hlt (Nat.le_add_right n 1)))
  have h2 := gUp_ne (x := (.inr (10, [.null, .null, .ref (n), .ref (n + 2), .null, .null, .null, .int (0), .int (0), .int (0), .int (0), .int (0), .int (0), .int (0)]))) (a := a) h2 (Nat.ne_of_lt (Nat.lt_of_lt_of_le hlt (Nat.le_add_right n 2)))
  have h3 := gUp_ne (x := (.inr (10, [.null, .null, .ref (n), .ref (n + 2), .null, .null, .null, .int (0), .int (0), .int (0), .int (0), .int (0), .int (0), .int (0)]))) (a := a) h3 (Nat.ne_of_lt (Nat.lt_of_lt_of_le hlt (Nat.le_add_right n 3)))
  have ha := gUp_at (x := (.inr (10, [.null, .null, .ref (n), .ref (n + 2), .null, .null, .null, .int (0), .int (0), .int (0), .int (0), .int (0), .int (0), .int (0)]))) ha
  generalize gUp G5 (a) (.inr (10, [.null, .null, .ref (n), .ref (n + 2), .null, .null, .null, .int (0), .int (0), .int (0), .int (0), .int (0), .int (0), .int (0)])) = G6 at z6 s6 k6 ha h0 h1 h2 h3 ⊢
  clear z5 s5 k5
  refine g_aload_n d_Tree_init_26 rfl ?_
  refine g_new kc_ArrayList cl_Tree_25 ki_ArrayList.1 ki_ArrayList.2 (fs := [.int (0), .null, .int (0)]) (by decide +kernel) (by omega) (by omega) d_Tree_init_27 ?_
  rw [z6]
  have z7 : (gNew G6 (.inr (0, [.int (0), .null, .int (0)])) 3).2.1 = n + 5 := by show G6.2.1 + 1 = _; omega
  have s7 : (gNew G6 (.inr (0, [.int (0), .null, .int (0)])) 3).2.2 = sl + 13 := by show G6.2.2 + 3 = _; omega
  have k7 := k6.new (x := (.inr (0, [.int (0), .null, .int (0)]))) (n := 3) (by omega)
  have ha := gNew_ne (x := (.inr (0, [.int (0), .null, .int (0)]))) (n := 3) ha (by omega)
  have h0 := gNew_ne (x := (.inr (0, [.int (0), .null, .int (0)]))) (n := 3) h0 (by omega)
  have h1 := gNew_ne (x := (.inr (0, [.int (0), .null, .int (0)]))) (n := 3) h1 (by omega)
  have h2 := gNew_ne (x := (.inr (0, [.int (0), .null, .int (0)]))) (n := 3) h2 (by omega)
  have h3 := gNew_ne (x := (.inr (0, [.int (0), .null, .int (0)]))) (n := 3) h3 (by omega)
  have h4 : (gNew G6 (.inr (0, [.int (0), .null, .int (0)])) 3).1 (n + 4) = some (.inr (0, [.int (0), .null, .int (0)])) := by rw [← z6]; exact gNew_at
  generalize gNew G6 (.inr (0, [.int (0), .null, .int (0)])) 3 = G7 at z7 s7 k7 ha h0 h1 h2 h3 h4 ⊢
  clear z6 s6 k6
  refine g_dup d_Tree_init_30 rfl ?_
  refine c_Ix (as := []) kn_ArrayList_init ml_Tree_27 (m_ArrayList_init h4 z7 s7 (by omega) (by omega) (by omega)) rfl (Nat.le_of_ble_eq_true rfl) rfl d_Tree_init_31 rfl (fun G8 hq => ?_)
  obtain ⟨z8, s8, kk, h4⟩ := hq
  have ha := (kk _ (by omega) (Nat.ne_of_lt (Nat.lt_of_lt_of_le hlt (Nat.le_add_right n 4)))).trans ha
  have h0 := (kk _ (by omega) (Nat.ne_of_lt (Nat.add_lt_add_left (show 0 < 4 by decide) n))).trans h0
  have h1 := (kk _ (by omega) (Nat.ne_of_lt (Nat.add_lt_add_left (show 1 < 4 by decide) n))).trans h1
  have h2 := (kk _ (by omega) (Nat.ne_of_lt (Nat.add_lt_add_left (show 2 < 4 by decide) n))).trans h2
  have h3 := (kk _ (by omega) (Nat.ne_of_lt (Nat.add_lt_add_left (show 3 < 4 by decide) n))).trans h3
  have k8 := k7.then kk (by omega) (Or.inr (by omega))
  have z8 : G8.2.1 = n + 5 := by omega
  have s8 : G8.2.2 = sl + 13 := by omega
  have h4 : G8.1 (n + 4) = some (.inr (0, [.int (0), .ref (gDef E), .int (0)])) := h4
  clear z7 s7 k7 kk
  refine g_putF (fs' := [.null, .null, .ref (n), .ref (n + 2), .ref (n + 4), .null, .null, .int (0), .int (0), .int (0), .int (0), .int (0), .int (0), .int (0)]) kc_Tree fl_Tree_28 (by decide) ha rfl rfl rfl rfl rfl (Nat.le_of_ble_eq_true rfl) rfl d_Tree_init_34 ?_
  have z9 : (gUp G8 (a) (.inr (10, [.null, .null, .ref (n), .ref (n + 2), .ref (n + 4), .null, .null, .int (0), .int (0), .int (0), .int (0), .int (0), .int (0), .int (0)]))).2.1 = n + 5 := z8
  have s9 : (gUp G8 (a) (.inr (10, [.null, .null, .ref (n), .ref (n + 2), .ref (n + 4), .null, .null, .int (0), .int (0), .int (0), .int (0), .int (0), .int (0), .int (0)]))).2.2 = sl + 13 := s8
  have k9 := k8.up (x := (.inr (10, [.null, .null, .ref (n), .ref (n + 2), .ref (n + 4), .null, .null, .int (0), .int (0), .int (0), .int (0), .int (0), .int (0), .int (0)]))) (b := a) (Or.inl rfl)
  have h0 := gUp_ne (x := (.inr (10, [.null, .null, .ref (n), .ref (n + 2), .ref (n + 4), .null, .null, .int (0), .int (0), .int (0), .int (0), .int (0), .int (0), .int (0)]))) (a := a) h0 (Nat.ne_of_lt (Nat.lt_of_lt_of_le hlt (Nat.le_add_right n 0)))
  have h1 := gUp_ne (x := (.inr (10, [.null, .null, .ref (n), .ref (n + 2), .ref (n + 4), .null, .null, .int (0), .int (0), .int (0), .int (0), .int (0), .int (0), .int (0)]))) (a := a) h1 (Nat.ne_of_lt (Nat.lt_of_lt_of_le hlt (Nat.le_add_right n 1)))
  have h2 := gUp_ne (x := (.inr (10, [.null, .null, .ref (n), .ref (n + 2), .ref (n + 4), .null, .null, .int (0), .int (0), .int (0), .int (0), .int (0), .int (0), .int (0)]))) (a := a) h2 (Nat.ne_of_lt (Nat.lt_of_lt_of_le hlt (Nat.le_add_right n 2)))
  have h3 := gUp_ne (x := (.inr (10, [.null, .null, .ref (n), .ref (n + 2), .ref (n + 4), .null, .null, .int (0), .int (0), .int (0), .int (0), .int (0), .int (0), .int (0)]))) (a := a) h3 (Nat.ne_of_lt (Nat.lt_of_lt_of_le hlt (Nat.le_add_right n 3)))
  have h4 := gUp_ne (x := (.inr (10, [.null, .null, .ref (n), .ref (n + 2), .ref (n + 4), .null, .null, .int (0), .int (0), .int (0), .int (0), .int (0), .int (0), .int (0)]))) (a := a) h4 (Nat.ne_of_lt (Nat.lt_of_lt_of_le hlt (Nat.le_add_right n 4)))
  have ha := gUp_at (x := (.inr (10, [.null, .null, .ref (n), .ref (n + 2), .ref (n + 4), .null, .null, .int (0), .int (0), .int (0), .int (0), .int (0), .int (0), .int (0)]))) ha
  generalize gUp G8 (a) (.inr (10, [.null, .null, .ref (n), .ref (n + 2), .ref (n + 4), .null, .null, .int (0), .int (0), .int (0), .int (0), .int (0), .int (0), .int (0)])) = G9 at z9 s9 k9 ha h0 h1 h2 h3 h4 ⊢
  clear z8 s8 k8
  refine g_aload_n d_Tree_init_37 rfl ?_
  refine g_sipush (v := 800) d_Tree_init_38 (by decide +kernel) ?_
  refine g_newI (N := 800) wa_int (by decide +kernel) (by decide +kernel) (by omega) (by omega) d_Tree_init_41 ?_
  rw [z9]
  have z10 : (gNew G9 (gAI E 800 (fun _ => 0)) 800).2.1 = n + 6 := by show G9.2.1 + 1 = _; omega
  have s10 : (gNew G9 (gAI E 800 (fun _ => 0)) 800).2.2 = sl + 813 := by show G9.2.2 + 800 = _; omega
  have k10 := k9.new (x := (gAI E 800 (fun _ => 0))) (n := 800) (by omega)
  have ha := gNew_ne (x := (gAI E 800 (fun _ => 0))) (n := 800) ha (by omega)
  have h0 := gNew_ne (x := (gAI E 800 (fun _ => 0))) (n := 800) h0 (by omega)
  have h1 := gNew_ne (x := (gAI E 800 (fun _ => 0))) (n := 800) h1 (by omega)
  have h2 := gNew_ne (x := (gAI E 800 (fun _ => 0))) (n := 800) h2 (by omega)
  have h3 := gNew_ne (x := (gAI E 800 (fun _ => 0))) (n := 800) h3 (by omega)
  have h4 := gNew_ne (x := (gAI E 800 (fun _ => 0))) (n := 800) h4 (by omega)
  have h5 : (gNew G9 (gAI E 800 (fun _ => 0)) 800).1 (n + 5) = some (gAI E 800 (fun _ => 0)) := by rw [← z9]; exact gNew_at
  generalize gNew G9 (gAI E 800 (fun _ => 0)) 800 = G10 at z10 s10 k10 ha h0 h1 h2 h3 h4 h5 ⊢
  clear z9 s9 k9
  refine g_putF (fs' := [.null, .null, .ref (n), .ref (n + 2), .ref (n + 4), .ref (n + 5), .null, .int (0), .int (0), .int (0), .int (0), .int (0), .int (0), .int (0)]) kc_Tree fl_Tree_32 (by decide) ha rfl rfl rfl rfl rfl (Nat.le_of_ble_eq_true rfl) rfl d_Tree_init_43 ?_
  have z11 : (gUp G10 (a) (.inr (10, [.null, .null, .ref (n), .ref (n + 2), .ref (n + 4), .ref (n + 5), .null, .int (0), .int (0), .int (0), .int (0), .int (0), .int (0), .int (0)]))).2.1 = n + 6 := z10
  have s11 : (gUp G10 (a) (.inr (10, [.null, .null, .ref (n), .ref (n + 2), .ref (n + 4), .ref (n + 5), .null, .int (0), .int (0), .int (0), .int (0), .int (0), .int (0), .int (0)]))).2.2 = sl + 813 := s10
  have k11 := k10.up (x := (.inr (10, [.null, .null, .ref (n), .ref (n + 2), .ref (n + 4), .ref (n + 5), .null, .int (0), .int (0), .int (0), .int (0), .int (0), .int (0), .int (0)]))) (b := a) (Or.inl rfl)
  have h0 := gUp_ne (x := (.inr (10, [.null, .null, .ref (n), .ref (n + 2), .ref (n + 4), .ref (n + 5), .null, .int (0), .int (0), .int (0), .int (0), .int (0), .int (0), .int (0)]))) (a := a) h0 (Nat.ne_of_lt (Nat.lt_of_lt_of_le hlt (Nat.le_add_right n 0)))
  have h1 := gUp_ne (x := (.inr (10, [.null, .null, .ref (n), .ref (n + 2), .ref (n + 4), .ref (n + 5), .null, .int (0), .int (0), .int (0), .int (0), .int (0), .int (0), .int (0)]))) (a := a) h1 (Nat.ne_of_lt (Nat.lt_of_lt_of_le hlt (Nat.le_add_right n 1)))
  have h2 := gUp_ne (x := (.inr (10, [.null, .null, .ref (n), .ref (n + 2), .ref (n + 4), .ref (n + 5), .null, .int (0), .int (0), .int (0), .int (0), .int (0), .int (0), .int (0)]))) (a := a) h2 (Nat.ne_of_lt (Nat.lt_of_lt_of_le hlt (Nat.le_add_right n 2)))
  have h3 := gUp_ne (x := (.inr (10, [.null, .null, .ref (n), .ref (n + 2), .ref (n + 4), .ref (n + 5), .null, .int (0), .int (0), .int (0), .int (0), .int (0), .int (0), .int (0)]))) (a := a) h3 (Nat.ne_of_lt (Nat.lt_of_lt_of_le hlt (Nat.le_add_right n 3)))
  have h4 := gUp_ne (x := (.inr (10, [.null, .null, .ref (n), .ref (n + 2), .ref (n + 4), .ref (n + 5), .null, .int (0), .int (0), .int (0), .int (0), .int (0), .int (0), .int (0)]))) (a := a) h4 (Nat.ne_of_lt (Nat.lt_of_lt_of_le hlt (Nat.le_add_right n 4)))
  have h5 := gUp_ne (x := (.inr (10, [.null, .null, .ref (n), .ref (n + 2), .ref (n + 4), .ref (n + 5), .null, .int (0), .int (0), .int (0), .int (0), .int (0), .int (0), .int (0)]))) (a := a) h5 (Nat.ne_of_lt (Nat.lt_of_lt_of_le hlt (Nat.le_add_right n 5)))
  have ha := gUp_at (x := (.inr (10, [.null, .null, .ref (n), .ref (n + 2), .ref (n + 4), .ref (n + 5), .null, .int (0), .int (0), .int (0), .int (0), .int (0), .int (0), .int (0)]))) ha
  generalize gUp G10 (a) (.inr (10, [.null, .null, .ref (n), .ref (n + 2), .ref (n + 4), .ref (n + 5), .null, .int (0), .int (0), .int (0), .int (0), .int (0), .int (0), .int (0)])) = G11 at z11 s11 k11 ha h0 h1 h2 h3 h4 h5 ⊢
  clear z10 s10 k10
  refine g_aload_n d_Tree_init_46 rfl ?_
  refine g_sipush (v := 6402) d_Tree_init_47 (by decide +kernel) ?_
  refine g_newI (N := 6402) wa_int (by decide +kernel) (by decide +kernel) (by omega) (by omega) d_Tree_init_50 ?_
  rw [z11]
  have z12 : (gNew G11 (gAI E 6402 (fun _ => 0)) 6402).2.1 = n + 7 := by show G11.2.1 + 1 = _; omega
  have s12 : (gNew G11 (gAI E 6402 (fun _ => 0)) 6402).2.2 = sl + 7215 := by show G11.2.2 + 6402 = _; omega
  have k12 := k11.new (x := (gAI E 6402 (fun _ => 0))) (n := 6402) (by omega)
  have ha := gNew_ne (x := (gAI E 6402 (fun _ => 0))) (n := 6402) ha (by omega)
  have h0 := gNew_ne (x := (gAI E 6402 (fun _ => 0))) (n := 6402) h0 (by omega)
  have h1 := gNew_ne (x := (gAI E 6402 (fun _ => 0))) (n := 6402) h1 (by omega)
  have h2 := gNew_ne (x := (gAI E 6402 (fun _ => 0))) (n := 6402) h2 (by omega)
  have h3 := gNew_ne (x := (gAI E 6402 (fun _ => 0))) (n := 6402) h3 (by omega)
  have h4 := gNew_ne (x := (gAI E 6402 (fun _ => 0))) (n := 6402) h4 (by omega)
  have h5 := gNew_ne (x := (gAI E 6402 (fun _ => 0))) (n := 6402) h5 (by omega)
  have h6 : (gNew G11 (gAI E 6402 (fun _ => 0)) 6402).1 (n + 6) = some (gAI E 6402 (fun _ => 0)) := by rw [← z11]; exact gNew_at
  generalize gNew G11 (gAI E 6402 (fun _ => 0)) 6402 = G12 at z12 s12 k12 ha h0 h1 h2 h3 h4 h5 h6 ⊢
  clear z11 s11 k11
  refine g_putF (fs' := [.null, .null, .ref (n), .ref (n + 2), .ref (n + 4), .ref (n + 5), .ref (n + 6), .int (0), .int (0), .int (0), .int (0), .int (0), .int (0), .int (0)]) kc_Tree fl_Tree_36 (by decide) ha rfl rfl rfl rfl rfl (Nat.le_of_ble_eq_true rfl) rfl d_Tree_init_52 ?_
  have z13 : (gUp G12 (a) (.inr (10, [.null, .null, .ref (n), .ref (n + 2), .ref (n + 4), .ref (n + 5), .ref (n + 6), .int (0), .int (0), .int (0), .int (0), .int (0), .int (0), .int (0)]))).2.1 = n + 7 := z12
  have s13 : (gUp G12 (a) (.inr (10, [.null, .null, .ref (n), .ref (n + 2), .ref (n + 4), .ref (n + 5), .ref (n + 6), .int (0), .int (0), .int (0), .int (0), .int (0), .int (0), .int (0)]))).2.2 = sl + 7215 := s12
  have k13 := k12.up (x := (.inr (10, [.null, .null, .ref (n), .ref (n + 2), .ref (n + 4), .ref (n + 5), .ref (n + 6), .int (0), .int (0), .int (0), .int (0), .int (0), .int (0), .int (0)]))) (b := a) (Or.inl rfl)
  have h0 := gUp_ne (x := (.inr (10, [.null, .null, .ref (n), .ref (n + 2), .ref (n + 4), .ref (n + 5), .ref (n + 6), .int (0), .int (0), .int (0), .int (0), .int (0), .int (0), .int (0)]))) (a := a) h0 (Nat.ne_of_lt (Nat.lt_of_lt_of_le hlt (Nat.le_add_right n 0)))
  have h1 := gUp_ne (x := (.inr (10, [.null, .null, .ref (n), .ref (n + 2), .ref (n + 4), .ref (n + 5), .ref (n + 6), .int (0), .int (0), .int (0), .int (0), .int (0), .int (0), .int (0)]))) (a := a) h1 (Nat.ne_of_lt (Nat.lt_of_lt_of_le hlt (Nat.le_add_right n 1)))
  have h2 := gUp_ne (x := (.inr (10, [.null, .null, .ref (n), .ref (n + 2), .ref (n + 4), .ref (n + 5), .ref (n + 6), .int (0), .int (0), .int (0), .int (0), .int (0), .int (0), .int (0)]))) (a := a) h2 (Nat.ne_of_lt (Nat.lt_of_lt_of_le hlt (Nat.le_add_right n 2)))
  have h3 := gUp_ne (x := (.inr (10, [.null, .null, .ref (n), .ref (n + 2), .ref (n + 4), .ref (n + 5), .ref (n + 6), .int (0), .int (0), .int (0), .int (0), .int (0), .int (0), .int (0)]))) (a := a) h3 (Nat.ne_of_lt (Nat.lt_of_lt_of_le hlt (Nat.le_add_right n 3)))
  have h4 := gUp_ne (x := (.inr (10, [.null, .null, .ref (n), .ref (n + 2), .ref (n + 4), .ref (n + 5), .ref (n + 6), .int (0), .int (0), .int (0), .int (0), .int (0), .int (0), .int (0)]))) (a := a) h4 (Nat.ne_of_lt (Nat.lt_of_lt_of_le hlt (Nat.le_add_right n 4)))
  have h5 := gUp_ne (x := (.inr (10, [.null, .null, .ref (n), .ref (n + 2), .ref (n + 4), .ref (n + 5), .ref (n + 6), .int (0), .int (0), .int (0), .int (0), .int (0), .int (0), .int (0)]))) (a := a) h5 (Nat.ne_of_lt (Nat.lt_of_lt_of_le hlt (Nat.le_add_right n 5)))
  have h6 := gUp_ne (x := (.inr (10, [.null, .null, .ref (n), .ref (n + 2), .ref (n + 4), .ref (n + 5), .ref (n + 6), .int (0), .int (0), .int (0), .int (0), .int (0), .int (0), .int (0)]))) (a := a) h6 (Nat.ne_of_lt (Nat.lt_of_lt_of_le hlt (Nat.le_add_right n 6)))
  have ha := gUp_at (x := (.inr (10, [.null, .null, .ref (n), .ref (n + 2), .ref (n + 4), .ref (n + 5), .ref (n + 6), .int (0), .int (0), .int (0), .int (0), .int (0), .int (0), .int (0)]))) ha
  generalize gUp G12 (a) (.inr (10, [.null, .null, .ref (n), .ref (n + 2), .ref (n + 4), .ref (n + 5), .ref (n + 6), .int (0), .int (0), .int (0), .int (0), .int (0), .int (0), .int (0)])) = G13 at z13 s13 k13 ha h0 h1 h2 h3 h4 h5 h6 ⊢
  clear z12 s12 k12
  refine g_aload_n d_Tree_init_55 rfl ?_
  refine g_aload_n d_Tree_init_56 rfl ?_
  refine g_putF (fs' := [.ref (aT), .null, .ref (n), .ref (n + 2), .ref (n + 4), .ref (n + 5), .ref (n + 6), .int (0), .int (0), .int (0), .int (0), .int (0), .int (0), .int (0)]) kc_Tree fl_Tree_39 (by decide) ha rfl rfl rfl rfl rfl (Nat.le_of_ble_eq_true rfl) rfl d_Tree_init_57 ?_
  have z14 : (gUp G13 (a) (.inr (10, [.ref (aT), .null, .ref (n), .ref (n + 2), .ref (n + 4), .ref (n + 5), .ref (n + 6), .int (0), .int (0), .int (0), .int (0), .int (0), .int (0), .int (0)]))).2.1 = n + 7 := z13
  have s14 : (gUp G13 (a) (.inr (10, [.ref (aT), .null, .ref (n), .ref (n + 2), .ref (n + 4), .ref (n + 5), .ref (n + 6), .int (0), .int (0), .int (0), .int (0), .int (0), .int (0), .int (0)]))).2.2 = sl + 7215 := s13
  have k14 := k13.up (x := (.inr (10, [.ref (aT), .null, .ref (n), .ref (n + 2), .ref (n + 4), .ref (n + 5), .ref (n + 6), .int (0), .int (0), .int (0), .int (0), .int (0), .int (0), .int (0)]))) (b := a) (Or.inl rfl)
  have h0 := gUp_ne (x := (.inr (10, [.ref (aT), .null, .ref (n), .ref (n + 2), .ref (n + 4), .ref (n + 5), .ref (n + 6), .int (0), .int (0), .int (0), .int (0), .int (0), .int (0), .int (0)]))) (a := a) h0 (Nat.ne_of_lt (Nat.lt_of_lt_of_le hlt (Nat.le_add_right n 0)))
  have h1 := gUp_ne (x := (.inr (10, [.ref (aT), .null, .ref (n), .ref (n + 2), .ref (n + 4), .ref (n + 5), .ref (n + 6), .int (0), .int (0), .int (0), .int (0), .int (0), .int (0), .int (0)]))) (a := a) h1 (Nat.ne_of_lt (Nat.lt_of_lt_of_le hlt (Nat.le_add_right n 1)))
  have h2 := gUp_ne (x := (.inr (10, [.ref (aT), .null, .ref (n), .ref (n + 2), .ref (n + 4), .ref (n + 5), .ref (n + 6), .int (0), .int (0), .int (0), .int (0), .int (0), .int (0), .int (0)]))) (a := a) h2 (Nat.ne_of_lt (Nat.lt_of_lt_of_le hlt (Nat.le_add_right n 2)))
  have h3 := gUp_ne (x := (.inr (10, [.ref (aT), .null, .ref (n), .ref (n + 2), .ref (n + 4), .ref (n + 5), .ref (n + 6), .int (0), .int (0), .int (0), .int (0), .int (0), .int (0), .int (0)]))) (a := a) h3 (Nat.ne_of_lt (Nat.lt_of_lt_of_le hlt (Nat.le_add_right n 3)))
  have h4 := gUp_ne (x := (.inr (10, [.ref (aT), .null, .ref (n), .ref (n + 2), .ref (n + 4), .ref (n + 5), .ref (n + 6), .int (0), .int (0), .int (0), .int (0), .int (0), .int (0), .int (0)]))) (a := a) h4 (Nat.ne_of_lt (Nat.lt_of_lt_of_le hlt (Nat.le_add_right n 4)))
  have h5 := gUp_ne (x := (.inr (10, [.ref (aT), .null, .ref (n), .ref (n + 2), .ref (n + 4), .ref (n + 5), .ref (n + 6), .int (0), .int (0), .int (0), .int (0), .int (0), .int (0), .int (0)]))) (a := a) h5 (Nat.ne_of_lt (Nat.lt_of_lt_of_le hlt (Nat.le_add_right n 5)))
  have h6 := gUp_ne (x := (.inr (10, [.ref (aT), .null, .ref (n), .ref (n + 2), .ref (n + 4), .ref (n + 5), .ref (n + 6), .int (0), .int (0), .int (0), .int (0), .int (0), .int (0), .int (0)]))) (a := a) h6 (Nat.ne_of_lt (Nat.lt_of_lt_of_le hlt (Nat.le_add_right n 6)))
  have ha := gUp_at (x := (.inr (10, [.ref (aT), .null, .ref (n), .ref (n + 2), .ref (n + 4), .ref (n + 5), .ref (n + 6), .int (0), .int (0), .int (0), .int (0), .int (0), .int (0), .int (0)]))) ha
  generalize gUp G13 (a) (.inr (10, [.ref (aT), .null, .ref (n), .ref (n + 2), .ref (n + 4), .ref (n + 5), .ref (n + 6), .int (0), .int (0), .int (0), .int (0), .int (0), .int (0), .int (0)])) = G14 at z14 s14 k14 ha h0 h1 h2 h3 h4 h5 h6 ⊢
  clear z13 s13 k13
  refine g_aload_n d_Tree_init_60 rfl ?_
  refine g_aload_n d_Tree_init_61 rfl ?_
  refine g_putF (fs' := [.ref (aT), .ref (aC), .ref (n), .ref (n + 2), .ref (n + 4), .ref (n + 5), .ref (n + 6), .int (0), .int (0), .int (0), .int (0), .int (0), .int (0), .int (0)]) kc_Tree fl_Tree_43 (by decide) ha rfl rfl rfl rfl rfl (Nat.le_of_ble_eq_true rfl) rfl d_Tree_init_62 ?_
  have z15 : (gUp G14 (a) (.inr (10, [.ref (aT), .ref (aC), .ref (n), .ref (n + 2), .ref (n + 4), .ref (n + 5), .ref (n + 6), .int (0), .int (0), .int (0), .int (0), .int (0), .int (0), .int (0)]))).2.1 = n + 7 := z14
  have s15 : (gUp G14 (a) (.inr (10, [.ref (aT), .ref (aC), .ref (n), .ref (n + 2), .ref (n + 4), .ref (n + 5), .ref (n + 6), .int (0), .int (0), .int (0), .int (0), .int (0), .int (0), .int (0)]))).2.2 = sl + 7215 := s14
  have k15 := k14.up (x := (.inr (10, [.ref (aT), .ref (aC), .ref (n), .ref (n + 2), .ref (n + 4), .ref (n + 5), .ref (n + 6), .int (0), .int (0), .int (0), .int (0), .int (0), .int (0), .int (0)]))) (b := a) (Or.inl rfl)
  have h0 := gUp_ne (x := (.inr (10, [.ref (aT), .ref (aC), .ref (n), .ref (n + 2), .ref (n + 4), .ref (n + 5), .ref (n + 6), .int (0), .int (0), .int (0), .int (0), .int (0), .int (0), .int (0)]))) (a := a) h0 (Nat.ne_of_lt (Nat.lt_of_lt_of_le hlt (Nat.le_add_right n 0)))
  have h1 := gUp_ne (x := (.inr (10, [.ref (aT), .ref (aC), .ref (n), .ref (n + 2), .ref (n + 4), .ref (n + 5), .ref (n + 6), .int (0), .int (0), .int (0), .int (0), .int (0), .int (0), .int (0)]))) (a := a) h1 (Nat.ne_of_lt (Nat.lt_of_lt_of_le hlt (Nat.le_add_right n 1)))
  have h2 := gUp_ne (x := (.inr (10, [.ref (aT), .ref (aC), .ref (n), .ref (n + 2), .ref (n + 4), .ref (n + 5), .ref (n + 6), .int (0), .int (0), .int (0), .int (0), .int (0), .int (0), .int (0)]))) (a := a) h2 (Nat.ne_of_lt (Nat.lt_of_lt_of_le hlt (Nat.le_add_right n 2)))
  have h3 := gUp_ne (x := (.inr (10, [.ref (aT), .ref (aC), .ref (n), .ref (n + 2), .ref (n + 4), .ref (n + 5), .ref (n + 6), .int (0), .int (0), .int (0), .int (0), .int (0), .int (0), .int (0)]))) (a := a) h3 (Nat.ne_of_lt (Nat.lt_of_lt_of_le hlt (Nat.le_add_right n 3)))
  have h4 := gUp_ne (x := (.inr (10, [.ref (aT), .ref (aC), .ref (n), .ref (n + 2), .ref (n + 4), .ref (n + 5), .ref (n + 6), .int (0), .int (0), .int (0), .int (0), .int (0), .int (0), .int (0)]))) (a := a) h4 (Nat.ne_of_lt (Nat.lt_of_lt_of_le hlt (Nat.le_add_right n 4)))
  have h5 := gUp_ne (x := (.inr (10, [.ref (aT), .ref (aC), .ref (n), .ref (n + 2), .ref (n + 4), .ref (n + 5), .ref (n + 6), .int (0), .int (0), .int (0), .int (0), .int (0), .int (0), .int (0)]))) (a := a) h5 (Nat.ne_of_lt (Nat.lt_of_lt_of_le hlt (Nat.le_add_right n 5)))
  have h6 := gUp_ne (x := (.inr (10, [.ref (aT), .ref (aC), .ref (n), .ref (n + 2), .ref (n + 4), .ref (n + 5), .ref (n + 6), .int (0), .int (0), .int (0), .int (0), .int (0), .int (0), .int (0)]))) (a := a) h6 (Nat.ne_of_lt (Nat.lt_of_lt_of_le hlt (Nat.le_add_right n 6)))
  have ha := gUp_at (x := (.inr (10, [.ref (aT), .ref (aC), .ref (n), .ref (n + 2), .ref (n + 4), .ref (n + 5), .ref (n + 6), .int (0), .int (0), .int (0), .int (0), .int (0), .int (0), .int (0)]))) ha
  generalize gUp G14 (a) (.inr (10, [.ref (aT), .ref (aC), .ref (n), .ref (n + 2), .ref (n + 4), .ref (n + 5), .ref (n + 6), .int (0), .int (0), .int (0), .int (0), .int (0), .int (0), .int (0)])) = G15 at z15 s15 k15 ha h0 h1 h2 h3 h4 h5 h6 ⊢
  clear z14 s14 k14
  refine g_vret rfl d_Tree_init_65 ?_
  exact ⟨rfl, z15, s15, k15, ha, h0, h1, h2, h3, h4, h5, h6⟩
set_option maxHeartbeats 4000000 in
set_option maxRecDepth 100000 in
theorem m_Types_init {a n sl : Nat} (ha : G.1 a = some (.inr (11, [.null, .null, .null]))) (hn : G.2.1 = n) (hs : G.2.2 = sl) (hlt : a < n) (hc : n + 3 ≤ E.1.heap.size + room_1.cells) (hr : sl + 656 ≤ room_1.slots) : GM E Y_Types_init (d + 1) [.ref a] G (rPost none (fun G' => G'.2.1 = n + 3 ∧ G'.2.2 = sl + 656 ∧ gKeep n a G G' ∧ G'.1 (a) = some (.inr (11, [.ref (n), .ref (n + 1), .ref (n + 2)])) ∧ G'.1 (n) = some (gAI E 16 (fillF (fun _ => 0) 16 (-1))) ∧ G'.1 (n + 1) = some (gAI E 128 (fun _ => 0)) ∧ G'.1 (n + 2) = some (gAI E 512 (fun _ => 0)))) := by
  refine g_entry (by decide) (by simp [Value.category]) (Nat.le_of_ble_eq_true rfl) ?_
  have z0 : G.2.1 = n := hn
  have s0 : G.2.2 = sl := hs
  have k0 : gKeep n a G G := gKeep.rf
  refine g_aload_n d_Types_init_0 rfl ?_
  refine g_objInit ml_Types_3 w_objI w_objC (Nat.le_of_ble_eq_true rfl) d_Types_init_1 ?_
  refine g_aload_n d_Types_init_4 rfl ?_
  refine g_bipush (v := 16) d_Types_init_5 (by decide +kernel) ?_
  refine g_newI (N := 16) wa_int (by decide +kernel) (by decide +kernel) (by omega) (by omega) d_Types_init_7 ?_
  rw [z0]
  have z1 : (gNew G (gAI E 16 (fun _ => 0)) 16).2.1 = n + 1 := by show G.2.1 + 1 = _; omega
  have s1 : (gNew G (gAI E 16 (fun _ => 0)) 16).2.2 = sl + 16 := by show G.2.2 + 16 = _; omega
  have k1 := k0.new (x := (gAI E 16 (fun _ => 0))) (n := 16) (by omega)
  have ha := gNew_ne (x := (gAI E 16 (fun _ => 0))) (n := 16) ha (by omega)
  have h0 : (gNew G (gAI E 16 (fun _ => 0)) 16).1 (n) = some (gAI E 16 (fun _ => 0)) := by rw [← z0]; exact gNew_at
  generalize gNew G (gAI E 16 (fun _ => 0)) 16 = G1 at z1 s1 k1 ha h0 ⊢
  clear z0 s0 k0
  refine g_putF (fs' := [.ref (n), .null, .null]) kc_Types fl_Types_9 (by decide) ha rfl rfl rfl rfl rfl (Nat.le_of_ble_eq_true rfl) rfl d_Types_init_9 ?_
  have z2 : (gUp G1 (a) (.inr (11, [.ref (n), .null, .null]))).2.1 = n + 1 := z1
  have s2 : (gUp G1 (a) (.inr (11, [.ref (n), .null, .null]))).2.2 = sl + 16 := s1
  have k2 := k1.up (x := (.inr (11, [.ref (n), .null, .null]))) (b := a) (Or.inl rfl)
  have h0 := gUp_ne (x := (.inr (11, [.ref (n), .null, .null]))) (a := a) h0 (Nat.ne_of_lt (Nat.lt_of_lt_of_le hlt (Nat.le_add_right n 0)))
  have ha := gUp_at (x := (.inr (11, [.ref (n), .null, .null]))) ha
  generalize gUp G1 (a) (.inr (11, [.ref (n), .null, .null])) = G2 at z2 s2 k2 ha h0 ⊢
  clear z1 s1 k1
  refine g_aload_n d_Types_init_12 rfl ?_
  refine g_sipush (v := 128) d_Types_init_13 (by decide +kernel) ?_
  refine g_newI (N := 128) wa_int (by decide +kernel) (by decide +kernel) (by omega) (by omega) d_Types_init_16 ?_
  rw [z2]
  have z3 : (gNew G2 (gAI E 128 (fun _ => 0)) 128).2.1 = n + 2 := by show G2.2.1 + 1 = _; omega
  have s3 : (gNew G2 (gAI E 128 (fun _ => 0)) 128).2.2 = sl + 144 := by show G2.2.2 + 128 = _; omega
  have k3 := k2.new (x := (gAI E 128 (fun _ => 0))) (n := 128) (by omega)
  have ha := gNew_ne (x := (gAI E 128 (fun _ => 0))) (n := 128) ha (by omega)
  have h0 := gNew_ne (x := (gAI E 128 (fun _ => 0))) (n := 128) h0 (by omega)
  have h1 : (gNew G2 (gAI E 128 (fun _ => 0)) 128).1 (n + 1) = some (gAI E 128 (fun _ => 0)) := by rw [← z2]; exact gNew_at
  generalize gNew G2 (gAI E 128 (fun _ => 0)) 128 = G3 at z3 s3 k3 ha h0 h1 ⊢
  clear z2 s2 k2
  refine g_putF (fs' := [.ref (n), .ref (n + 1), .null]) kc_Types fl_Types_15 (by decide) ha rfl rfl rfl rfl rfl (Nat.le_of_ble_eq_true rfl) rfl d_Types_init_18 ?_
  have z4 : (gUp G3 (a) (.inr (11, [.ref (n), .ref (n + 1), .null]))).2.1 = n + 2 := z3
  have s4 : (gUp G3 (a) (.inr (11, [.ref (n), .ref (n + 1), .null]))).2.2 = sl + 144 := s3
  have k4 := k3.up (x := (.inr (11, [.ref (n), .ref (n + 1), .null]))) (b := a) (Or.inl rfl)
  have h0 := gUp_ne (x := (.inr (11, [.ref (n), .ref (n + 1), .null]))) (a := a) h0 (Nat.ne_of_lt (Nat.lt_of_lt_of_le hlt (Nat.le_add_right n 0)))
  have h1 := gUp_ne (x := (.inr (11, [.ref (n), .ref (n + 1), .null]))) (a := a) h1 (Nat.ne_of_lt (Nat.lt_of_lt_of_le hlt (Nat.le_add_right n 1)))
  have ha := gUp_at (x := (.inr (11, [.ref (n), .ref (n + 1), .null]))) ha
  generalize gUp G3 (a) (.inr (11, [.ref (n), .ref (n + 1), .null])) = G4 at z4 s4 k4 ha h0 h1 ⊢
  clear z3 s3 k3
  refine g_aload_n d_Types_init_21 rfl ?_
  refine g_sipush (v := 512) d_Types_init_22 (by decide +kernel) ?_
  refine g_newI (N := 512) wa_int (by decide +kernel) (by decide +kernel) (by omega) (by omega) d_Types_init_25 ?_
  rw [z4]
  have z5 : (gNew G4 (gAI E 512 (fun _ => 0)) 512).2.1 = n + 3 := by show G4.2.1 + 1 = _; omega
  have s5 : (gNew G4 (gAI E 512 (fun _ => 0)) 512).2.2 = sl + 656 := by show G4.2.2 + 512 = _; omega
  have k5 := k4.new (x := (gAI E 512 (fun _ => 0))) (n := 512) (by omega)
  have ha := gNew_ne (x := (gAI E 512 (fun _ => 0))) (n := 512) ha (by omega)
  have h0 := gNew_ne (x := (gAI E 512 (fun _ => 0))) (n := 512) h0 (by omega)
  have h1 := gNew_ne (x := (gAI E 512 (fun _ => 0))) (n := 512) h1 (by omega)
  have h2 : (gNew G4 (gAI E 512 (fun _ => 0)) 512).1 (n + 2) = some (gAI E 512 (fun _ => 0)) := by rw [← z4]; exact gNew_at
  generalize gNew G4 (gAI E 512 (fun _ => 0)) 512 = G5 at z5 s5 k5 ha h0 h1 h2 ⊢
  clear z4 s4 k4
  refine g_putF (fs' := [.ref (n), .ref (n + 1), .ref (n + 2)]) kc_Types fl_Types_18 (by decide) ha rfl rfl rfl rfl rfl (Nat.le_of_ble_eq_true rfl) rfl d_Types_init_27 ?_
  have z6 : (gUp G5 (a) (.inr (11, [.ref (n), .ref (n + 1), .ref (n + 2)]))).2.1 = n + 3 := z5
  have s6 : (gUp G5 (a) (.inr (11, [.ref (n), .ref (n + 1), .ref (n + 2)]))).2.2 = sl + 656 := s5
  have k6 := k5.up (x := (.inr (11, [.ref (n), .ref (n + 1), .ref (n + 2)]))) (b := a) (Or.inl rfl)
  have h0 := gUp_ne (x := (.inr (11, [.ref (n), .ref (n + 1), .ref (n + 2)]))) (a := a) h0 (Nat.ne_of_lt (Nat.lt_of_lt_of_le hlt (Nat.le_add_right n 0)))
  have h1 := gUp_ne (x := (.inr (11, [.ref (n), .ref (n + 1), .ref (n + 2)]))) (a := a) h1 (Nat.ne_of_lt (Nat.lt_of_lt_of_le hlt (Nat.le_add_right n 1)))
  have h2 := gUp_ne (x := (.inr (11, [.ref (n), .ref (n + 1), .ref (n + 2)]))) (a := a) h2 (Nat.ne_of_lt (Nat.lt_of_lt_of_le hlt (Nat.le_add_right n 2)))
  have ha := gUp_at (x := (.inr (11, [.ref (n), .ref (n + 1), .ref (n + 2)]))) ha
  generalize gUp G5 (a) (.inr (11, [.ref (n), .ref (n + 1), .ref (n + 2)])) = G6 at z6 s6 k6 ha h0 h1 h2 ⊢
  clear z5 s5 k5
  refine g_aload_n d_Types_init_30 rfl ?_
  refine g_getf kc_Types fl_Types_9 (by decide) ha rfl d_Types_init_31 ?_
  refine g_iconst (v := (-1)) d_Types_init_34 (by decide +kernel) ?_
  refine c_Sr (as := [.ref (n), .int ((-1))]) ks_Arrays_fill ml_Types_21 (m_Arrays_fill h0 (by decide) (-1)) rfl (Nat.le_of_ble_eq_true rfl) rfl d_Types_init_35 rfl ?_
  have z7 : (gUp G6 (n) (gAI E 16 (fillF (fun _ => 0) 16 (-1)))).2.1 = n + 3 := z6
  have s7 : (gUp G6 (n) (gAI E 16 (fillF (fun _ => 0) 16 (-1)))).2.2 = sl + 656 := s6
  have k7 := k6.up (x := (gAI E 16 (fillF (fun _ => 0) 16 (-1)))) (b := n) (Or.inr (by omega))
  have ha := gUp_ne (x := (gAI E 16 (fillF (fun _ => 0) 16 (-1)))) (a := n) ha (Ne.symm (Nat.ne_of_lt (Nat.lt_of_lt_of_le hlt (Nat.le_add_right n 0))))
  have h1 := gUp_ne (x := (gAI E 16 (fillF (fun _ => 0) 16 (-1)))) (a := n) h1 (Nat.ne_of_lt (Nat.add_lt_add_left (show 0 < 1 by decide) n))
  have h2 := gUp_ne (x := (gAI E 16 (fillF (fun _ => 0) 16 (-1)))) (a := n) h2 (Nat.ne_of_lt (Nat.add_lt_add_left (show 0 < 2 by decide) n))
  have h0 := gUp_at (x := (gAI E 16 (fillF (fun _ => 0) 16 (-1)))) h0
  generalize gUp G6 (n) (gAI E 16 (fillF (fun _ => 0) 16 (-1))) = G7 at z7 s7 k7 ha h0 h1 h2 ⊢
  clear z6 s6 k6
  refine g_vret rfl d_Types_init_38 ?_
  exact ⟨rfl, z7, s7, k7, ha, h0, h1, h2⟩
set_option maxHeartbeats 4000000 in
set_option maxRecDepth 100000 in
theorem m_Mill_init {a n sl : Nat} (ha : G.1 a = some (.inr (12, [.null, .null, .null, .null, .null, .null, .int (0), .int (0), .int (0)]))) (hn : G.2.1 = n) (hs : G.2.2 = sl) (hlt : a < n) (hc : n + 23 ≤ E.1.heap.size + room_1.cells) (hr : sl + 8090 ≤ room_1.slots) : GM E Y_Mill_init (d + 6) [.ref a] G (rPost none (fun G' => G'.2.1 = n + 23 ∧ G'.2.2 = sl + 8090 ∧ gKeep n a G G' ∧ G'.1 (a) = some (.inr (12, [.ref (n), .ref (n + 7), .ref (n + 9), .ref (n + 4), .ref (n + 11), .ref (n + 19), .int (0), .int (0), .int (0)])) ∧ G'.1 (n) = some (.inr (11, [.ref (n + 1), .ref (n + 2), .ref (n + 3)])) ∧ G'.1 (n + 1) = some (gAI E 16 (fillF (fun _ => 0) 16 (-1))) ∧ G'.1 (n + 2) = some (gAI E 128 (fun _ => 0)) ∧ G'.1 (n + 3) = some (gAI E 512 (fun _ => 0)) ∧ G'.1 (n + 4) = some (.inr (1, [.ref (n + 5), .ref (n + 6), .int (0)])) ∧ G'.1 (n + 5) = some (gAT E 20 (fun _ => none)) ∧ G'.1 (n + 6) = some (gAZ E 20 (fun _ => 0)) ∧ G'.1 (n + 7) = some (.inr (3, [.ref (n + 8), .int (0)])) ∧ G'.1 (n + 8) = some (gAT E 40 (fun _ => none)) ∧ G'.1 (n + 9) = some (.inr (3, [.ref (n + 10), .int (0)])) ∧ G'.1 (n + 10) = some (gAT E 40 (fun _ => none)) ∧ G'.1 (n + 11) = some (.inr (10, [.ref (n), .ref (n + 4), .ref (n + 12), .ref (n + 14), .ref (n + 16), .ref (n + 17), .ref (n + 18), .int (0), .int (0), .int (0), .int (0), .int (0), .int (0), .int (0)])) ∧ G'.1 (n + 12) = some (.inr (8, [.ref (n + 13), .int (0)])) ∧ G'.1 (n + 13) = some (.inr (0, [.int (0), .ref (gDef E), .int (0)])) ∧ G'.1 (n + 14) = some (.inr (5, [.ref (n + 15), .int (0)])) ∧ G'.1 (n + 15) = some (.inr (0, [.int (0), .ref (gDef E), .int (0)])) ∧ G'.1 (n + 16) = some (.inr (0, [.int (0), .ref (gDef E), .int (0)])) ∧ G'.1 (n + 17) = some (gAI E 800 (fun _ => 0)) ∧ G'.1 (n + 18) = some (gAI E 6402 (fun _ => 0)) ∧ G'.1 (n + 19) = some (.inr (2, [.ref (n + 20), .ref (n + 21), .ref (n + 22), .int (0)])) ∧ G'.1 (n + 20) = some (gAI E 60 (fun _ => 0)) ∧ G'.1 (n + 21) = some (gAT E 8 (fun _ => none)) ∧ G'.1 (n + 22) = some (.inr (0, [.int (0), .ref (gDef E), .int (0)])))) := by
  refine g_entry (by decide) (by simp [Value.category]) (Nat.le_of_ble_eq_true rfl) ?_
  have z0 : G.2.1 = n := hn
  have s0 : G.2.2 = sl := hs
  have k0 : gKeep n a G G := gKeep.rf
  refine g_aload_n d_Mill_init_0 rfl ?_
  refine g_objInit ml_Mill_3 w_objI w_objC (Nat.le_of_ble_eq_true rfl) d_Mill_init_1 ?_
  refine g_new kc_Types cl_Mill_9 ki_Types.1 ki_Types.2 (fs := [.null, .null, .null]) (by decide +kernel) (by omega) (by omega) d_Mill_init_4 ?_
  rw [z0]
  have z1 : (gNew G (.inr (11, [.null, .null, .null])) 3).2.1 = n + 1 := by show G.2.1 + 1 = _; omega
  have s1 : (gNew G (.inr (11, [.null, .null, .null])) 3).2.2 = sl + 3 := by show G.2.2 + 3 = _; omega
  have k1 := k0.new (x := (.inr (11, [.null, .null, .null]))) (n := 3) (by omega)
  have ha := gNew_ne (x := (.inr (11, [.null, .null, .null]))) (n := 3) ha (by omega)
  have h0 : (gNew G (.inr (11, [.null, .null, .null])) 3).1 (n) = some (.inr (11, [.null, .null, .null])) := by rw [← z0]; exact gNew_at
  generalize gNew G (.inr (11, [.null, .null, .null])) 3 = G1 at z1 s1 k1 ha h0 ⊢
  clear z0 s0 k0
  refine g_dup d_Mill_init_7 rfl ?_
  refine c_Ix (as := []) kn_Types_init ml_Mill_11 (m_Types_init h0 z1 s1 (by omega) (by omega) (by omega)) rfl (Nat.le_of_ble_eq_true rfl) rfl d_Mill_init_8 rfl (fun G2 hq => ?_)
  obtain ⟨z2, s2, kk, h0, h1, h2, h3⟩ := hq
  have ha := (kk _ (by omega) (Nat.ne_of_lt (Nat.lt_of_lt_of_le hlt (Nat.le_add_right n 0)))).trans ha
  have k2 := k1.then kk (by omega) (Or.inr (by omega))
  have z2 : G2.2.1 = n + 4 := by omega
  have s2 : G2.2.2 = sl + 659 := by omega
  have h0 : G2.1 (n) = some (.inr (11, [.ref (n + 1), .ref (n + 2), .ref (n + 3)])) := h0
  have h1 : G2.1 (n + 1) = some (gAI E 16 (fillF (fun _ => 0) 16 (-1))) := h1
  have h2 : G2.1 (n + 2) = some (gAI E 128 (fun _ => 0)) := h2
  have h3 : G2.1 (n + 3) = some (gAI E 512 (fun _ => 0)) := h3
  clear z1 s1 k1 kk
  refine g_astore_n d_Mill_init_11 (by decide) rfl ?_
  refine g_new kc_Cases cl_Mill_12 ki_Cases.1 ki_Cases.2 (fs := [.null, .null, .int (0)]) (by decide +kernel) (by omega) (by omega) d_Mill_init_12 ?_
  rw [z2]
  have z3 : (gNew G2 (.inr (1, [.null, .null, .int (0)])) 3).2.1 = n + 5 := by show G2.2.1 + 1 = _; omega
  have s3 : (gNew G2 (.inr (1, [.null, .null, .int (0)])) 3).2.2 = sl + 662 := by show G2.2.2 + 3 = _; omega
  have k3 := k2.new (x := (.inr (1, [.null, .null, .int (0)]))) (n := 3) (by omega)
  have ha := gNew_ne (x := (.inr (1, [.null, .null, .int (0)]))) (n := 3) ha (by omega)
  have h0 := gNew_ne (x := (.inr (1, [.null, .null, .int (0)]))) (n := 3) h0 (by omega)
  have h1 := gNew_ne (x := (.inr (1, [.null, .null, .int (0)]))) (n := 3) h1 (by omega)
  have h2 := gNew_ne (x := (.inr (1, [.null, .null, .int (0)]))) (n := 3) h2 (by omega)
  have h3 := gNew_ne (x := (.inr (1, [.null, .null, .int (0)]))) (n := 3) h3 (by omega)
  have h4 : (gNew G2 (.inr (1, [.null, .null, .int (0)])) 3).1 (n + 4) = some (.inr (1, [.null, .null, .int (0)])) := by rw [← z2]; exact gNew_at
  generalize gNew G2 (.inr (1, [.null, .null, .int (0)])) 3 = G3 at z3 s3 k3 ha h0 h1 h2 h3 h4 ⊢
  clear z2 s2 k2
  refine g_dup d_Mill_init_15 rfl ?_
  refine c_INx (as := []) kn_Cases_init ml_Mill_14 (m_Cases_init h4 z3 s3 (by omega) (by omega) (by omega)) rfl (Nat.le_of_ble_eq_true rfl) rfl d_Mill_init_16 rfl (fun G4 hq => ?_)
  obtain ⟨z4, s4, kk, h4, h5, h6⟩ := hq
  have ha := (kk _ (by omega) (Nat.ne_of_lt (Nat.lt_of_lt_of_le hlt (Nat.le_add_right n 4)))).trans ha
  have h0 := (kk _ (by omega) (Nat.ne_of_lt (Nat.add_lt_add_left (show 0 < 4 by decide) n))).trans h0
  have h1 := (kk _ (by omega) (Nat.ne_of_lt (Nat.add_lt_add_left (show 1 < 4 by decide) n))).trans h1
  have h2 := (kk _ (by omega) (Nat.ne_of_lt (Nat.add_lt_add_left (show 2 < 4 by decide) n))).trans h2
  have h3 := (kk _ (by omega) (Nat.ne_of_lt (Nat.add_lt_add_left (show 3 < 4 by decide) n))).trans h3
  have k4 := k3.then kk (by omega) (Or.inr (by omega))
  have z4 : G4.2.1 = n + 7 := by omega
  have s4 : G4.2.2 = sl + 702 := by omega
  have h4 : G4.1 (n + 4) = some (.inr (1, [.ref (n + 5), .ref (n + 6), .int (0)])) := h4
  have h5 : G4.1 (n + 5) = some (gAT E 20 (fun _ => none)) := h5
  have h6 : G4.1 (n + 6) = some (gAZ E 20 (fun _ => 0)) := h6
  clear z3 s3 k3 kk
  refine g_astore_n d_Mill_init_19 (by decide) rfl ?_
  refine g_aload_n d_Mill_init_20 rfl ?_
  refine g_aload_n d_Mill_init_21 rfl ?_
  refine g_putF (fs' := [.ref (n), .null, .null, .null, .null, .null, .int (0), .int (0), .int (0)]) kc_Mill fl_Mill_15 (by decide) ha rfl rfl rfl rfl rfl (Nat.le_of_ble_eq_true rfl) rfl d_Mill_init_22 ?_
  have z5 : (gUp G4 (a) (.inr (12, [.ref (n), .null, .null, .null, .null, .null, .int (0), .int (0), .int (0)]))).2.1 = n + 7 := z4
  have s5 : (gUp G4 (a) (.inr (12, [.ref (n), .null, .null, .null, .null, .null, .int (0), .int (0), .int (0)]))).2.2 = sl + 702 := s4
  have k5 := k4.up (x := (.inr (12, [.ref (n), .null, .null, .null, .null, .null, .int (0), .int (0), .int (0)]))) (b := a) (Or.inl rfl)
  have h0 := gUp_ne (x := (.inr (12, [.ref (n), .null, .null, .null, .null, .null, .int (0), .int (0), .int (0)]))) (a := a) h0 (Nat.ne_of_lt (Nat.lt_of_lt_of_le hlt (Nat.le_add_right n 0)))
  have h1 := gUp_ne (x := (.inr (12, [.ref (n), .null, .null, .null, .null, .null, .int (0), .int (0), .int (0)]))) (a := a) h1 (Nat.ne_of_lt (Nat.lt_of_lt_of_le hlt (Nat.le_add_right n 1)))
  have h2 := gUp_ne (x := (.inr (12, [.ref (n), .null, .null, .null, .null, .null, .int (0), .int (0), .int (0)]))) (a := a) h2 (Nat.ne_of_lt (Nat.lt_of_lt_of_le hlt (Nat.le_add_right n 2)))
  have h3 := gUp_ne (x := (.inr (12, [.ref (n), .null, .null, .null, .null, .null, .int (0), .int (0), .int (0)]))) (a := a) h3 (Nat.ne_of_lt (Nat.lt_of_lt_of_le hlt (Nat.le_add_right n 3)))
  have h4 := gUp_ne (x := (.inr (12, [.ref (n), .null, .null, .null, .null, .null, .int (0), .int (0), .int (0)]))) (a := a) h4 (Nat.ne_of_lt (Nat.lt_of_lt_of_le hlt (Nat.le_add_right n 4)))
  have h5 := gUp_ne (x := (.inr (12, [.ref (n), .null, .null, .null, .null, .null, .int (0), .int (0), .int (0)]))) (a := a) h5 (Nat.ne_of_lt (Nat.lt_of_lt_of_le hlt (Nat.le_add_right n 5)))
  have h6 := gUp_ne (x := (.inr (12, [.ref (n), .null, .null, .null, .null, .null, .int (0), .int (0), .int (0)]))) (a := a) h6 (Nat.ne_of_lt (Nat.lt_of_lt_of_le hlt (Nat.le_add_right n 6)))
  have ha := gUp_at (x := (.inr (12, [.ref (n), .null, .null, .null, .null, .null, .int (0), .int (0), .int (0)]))) ha
  generalize gUp G4 (a) (.inr (12, [.ref (n), .null, .null, .null, .null, .null, .int (0), .int (0), .int (0)])) = G5 at z5 s5 k5 ha h0 h1 h2 h3 h4 h5 h6 ⊢
  clear z4 s4 k4
  refine g_aload_n d_Mill_init_25 rfl ?_
  refine g_aload_n d_Mill_init_26 rfl ?_
  refine g_putF (fs' := [.ref (n), .null, .null, .ref (n + 4), .null, .null, .int (0), .int (0), .int (0)]) kc_Mill fl_Mill_19 (by decide) ha rfl rfl rfl rfl rfl (Nat.le_of_ble_eq_true rfl) rfl d_Mill_init_27 ?_
  have z6 : (gUp G5 (a) (.inr (12, [.ref (n), .null, .null, .ref (n + 4), .null, .null, .int (0), .int (0), .int (0)]))).2.1 = n + 7 := z5
  have s6 : (gUp G5 (a) (.inr (12, [.ref (n), .null, .null, .ref (n + 4), .null, .null, .int (0), .int (0), .int (0)]))).2.2 = sl + 702 := s5
  have k6 := k5.up (x := (.inr (12, [.ref (n), .null, .null, .ref (n + 4), .null, .null, .int (0), .int (0), .int (0)]))) (b := a) (Or.inl rfl)
  have h0 := gUp_ne (x := (.inr (12, [.ref (n), .null, .null, .ref (n + 4), .null, .null, .int (0), .int (0), .int (0)]))) (a := a) h0 (Nat.ne_of_lt (Nat.lt_of_lt_of_le hlt (Nat.le_add_right n 0)))
  have h1 := gUp_ne (x := (.inr (12, [.ref (n), .null, .null, .ref (n + 4), .null, .null, .int (0), .int (0), .int (0)]))) (a := a) h1 (Nat.ne_of_lt (Nat.lt_of_lt_of_le hlt (Nat.le_add_right n 1)))
  have h2 := gUp_ne (x := (.inr (12, [.ref (n), .null, .null, .ref (n + 4), .null, .null, .int (0), .int (0), .int (0)]))) (a := a) h2 (Nat.ne_of_lt (Nat.lt_of_lt_of_le hlt (Nat.le_add_right n 2)))
  have h3 := gUp_ne (x := (.inr (12, [.ref (n), .null, .null, .ref (n + 4), .null, .null, .int (0), .int (0), .int (0)]))) (a := a) h3 (Nat.ne_of_lt (Nat.lt_of_lt_of_le hlt (Nat.le_add_right n 3)))
  have h4 := gUp_ne (x := (.inr (12, [.ref (n), .null, .null, .ref (n + 4), .null, .null, .int (0), .int (0), .int (0)]))) (a := a) h4 (Nat.ne_of_lt (Nat.lt_of_lt_of_le hlt (Nat.le_add_right n 4)))
  have h5 := gUp_ne (x := (.inr (12, [.ref (n), .null, .null, .ref (n + 4), .null, .null, .int (0), .int (0), .int (0)]))) (a := a) h5 (Nat.ne_of_lt (Nat.lt_of_lt_of_le hlt (Nat.le_add_right n 5)))
  have h6 := gUp_ne (x := (.inr (12, [.ref (n), .null, .null, .ref (n + 4), .null, .null, .int (0), .int (0), .int (0)]))) (a := a) h6 (Nat.ne_of_lt (Nat.lt_of_lt_of_le hlt (Nat.le_add_right n 6)))
  have ha := gUp_at (x := (.inr (12, [.ref (n), .null, .null, .ref (n + 4), .null, .null, .int (0), .int (0), .int (0)]))) ha
  generalize gUp G5 (a) (.inr (12, [.ref (n), .null, .null, .ref (n + 4), .null, .null, .int (0), .int (0), .int (0)])) = G6 at z6 s6 k6 ha h0 h1 h2 h3 h4 h5 h6 ⊢
  clear z5 s5 k5
  refine g_aload_n d_Mill_init_30 rfl ?_
  refine g_new kc_Pile cl_Mill_23 ki_Pile.1 ki_Pile.2 (fs := [.null, .int (0)]) (by decide +kernel) (by omega) (by omega) d_Mill_init_31 ?_
  rw [z6]
  have z7 : (gNew G6 (.inr (3, [.null, .int (0)])) 2).2.1 = n + 8 := by show G6.2.1 + 1 = _; omega
  have s7 : (gNew G6 (.inr (3, [.null, .int (0)])) 2).2.2 = sl + 704 := by show G6.2.2 + 2 = _; omega
  have k7 := k6.new (x := (.inr (3, [.null, .int (0)]))) (n := 2) (by omega)
  have ha := gNew_ne (x := (.inr (3, [.null, .int (0)]))) (n := 2) ha (by omega)
  have h0 := gNew_ne (x := (.inr (3, [.null, .int (0)]))) (n := 2) h0 (by omega)
  have h1 := gNew_ne (x := (.inr (3, [.null, .int (0)]))) (n := 2) h1 (by omega)
  have h2 := gNew_ne (x := (.inr (3, [.null, .int (0)]))) (n := 2) h2 (by omega)
  have h3 := gNew_ne (x := (.inr (3, [.null, .int (0)]))) (n := 2) h3 (by omega)
  have h4 := gNew_ne (x := (.inr (3, [.null, .int (0)]))) (n := 2) h4 (by omega)
  have h5 := gNew_ne (x := (.inr (3, [.null, .int (0)]))) (n := 2) h5 (by omega)
  have h6 := gNew_ne (x := (.inr (3, [.null, .int (0)]))) (n := 2) h6 (by omega)
  have h7 : (gNew G6 (.inr (3, [.null, .int (0)])) 2).1 (n + 7) = some (.inr (3, [.null, .int (0)])) := by rw [← z6]; exact gNew_at
  generalize gNew G6 (.inr (3, [.null, .int (0)])) 2 = G7 at z7 s7 k7 ha h0 h1 h2 h3 h4 h5 h6 h7 ⊢
  clear z6 s6 k6
  refine g_dup d_Mill_init_34 rfl ?_
  refine c_INx (as := []) kn_Pile_init ml_Mill_25 (m_Pile_init h7 z7 s7 (by omega) (by omega) (by omega)) rfl (Nat.le_of_ble_eq_true rfl) rfl d_Mill_init_35 rfl (fun G8 hq => ?_)
  obtain ⟨z8, s8, kk, h7, h8⟩ := hq
  have ha := (kk _ (by omega) (Nat.ne_of_lt (Nat.lt_of_lt_of_le hlt (Nat.le_add_right n 7)))).trans ha
  have h0 := (kk _ (by omega) (Nat.ne_of_lt (Nat.add_lt_add_left (show 0 < 7 by decide) n))).trans h0
  have h1 := (kk _ (by omega) (Nat.ne_of_lt (Nat.add_lt_add_left (show 1 < 7 by decide) n))).trans h1
  have h2 := (kk _ (by omega) (Nat.ne_of_lt (Nat.add_lt_add_left (show 2 < 7 by decide) n))).trans h2
  have h3 := (kk _ (by omega) (Nat.ne_of_lt (Nat.add_lt_add_left (show 3 < 7 by decide) n))).trans h3
  have h4 := (kk _ (by omega) (Nat.ne_of_lt (Nat.add_lt_add_left (show 4 < 7 by decide) n))).trans h4
  have h5 := (kk _ (by omega) (Nat.ne_of_lt (Nat.add_lt_add_left (show 5 < 7 by decide) n))).trans h5
  have h6 := (kk _ (by omega) (Nat.ne_of_lt (Nat.add_lt_add_left (show 6 < 7 by decide) n))).trans h6
  have k8 := k7.then kk (by omega) (Or.inr (by omega))
  have z8 : G8.2.1 = n + 9 := by omega
  have s8 : G8.2.2 = sl + 744 := by omega
  have h7 : G8.1 (n + 7) = some (.inr (3, [.ref (n + 8), .int (0)])) := h7
  have h8 : G8.1 (n + 8) = some (gAT E 40 (fun _ => none)) := h8
  clear z7 s7 k7 kk
  refine g_putF (fs' := [.ref (n), .ref (n + 7), .null, .ref (n + 4), .null, .null, .int (0), .int (0), .int (0)]) kc_Mill fl_Mill_26 (by decide) ha rfl rfl rfl rfl rfl (Nat.le_of_ble_eq_true rfl) rfl d_Mill_init_38 ?_
  have z9 : (gUp G8 (a) (.inr (12, [.ref (n), .ref (n + 7), .null, .ref (n + 4), .null, .null, .int (0), .int (0), .int (0)]))).2.1 = n + 9 := z8
  have s9 : (gUp G8 (a) (.inr (12, [.ref (n), .ref (n + 7), .null, .ref (n + 4), .null, .null, .int (0), .int (0), .int (0)]))).2.2 = sl + 744 := s8
  have k9 := k8.up (x := (.inr (12, [.ref (n), .ref (n + 7), .null, .ref (n + 4), .null, .null, .int (0), .int (0), .int (0)]))) (b := a) (Or.inl rfl)
  have h0 := gUp_ne (x := (.inr (12, [.ref (n), .ref (n + 7), .null, .ref (n + 4), .null, .null, .int (0), .int (0), .int (0)]))) (a := a) h0 (Nat.ne_of_lt (Nat.lt_of_lt_of_le hlt (Nat.le_add_right n 0)))
  have h1 := gUp_ne (x := (.inr (12, [.ref (n), .ref (n + 7), .null, .ref (n + 4), .null, .null, .int (0), .int (0), .int (0)]))) (a := a) h1 (Nat.ne_of_lt (Nat.lt_of_lt_of_le hlt (Nat.le_add_right n 1)))
  have h2 := gUp_ne (x := (.inr (12, [.ref (n), .ref (n + 7), .null, .ref (n + 4), .null, .null, .int (0), .int (0), .int (0)]))) (a := a) h2 (Nat.ne_of_lt (Nat.lt_of_lt_of_le hlt (Nat.le_add_right n 2)))
  have h3 := gUp_ne (x := (.inr (12, [.ref (n), .ref (n + 7), .null, .ref (n + 4), .null, .null, .int (0), .int (0), .int (0)]))) (a := a) h3 (Nat.ne_of_lt (Nat.lt_of_lt_of_le hlt (Nat.le_add_right n 3)))
  have h4 := gUp_ne (x := (.inr (12, [.ref (n), .ref (n + 7), .null, .ref (n + 4), .null, .null, .int (0), .int (0), .int (0)]))) (a := a) h4 (Nat.ne_of_lt (Nat.lt_of_lt_of_le hlt (Nat.le_add_right n 4)))
  have h5 := gUp_ne (x := (.inr (12, [.ref (n), .ref (n + 7), .null, .ref (n + 4), .null, .null, .int (0), .int (0), .int (0)]))) (a := a) h5 (Nat.ne_of_lt (Nat.lt_of_lt_of_le hlt (Nat.le_add_right n 5)))
  have h6 := gUp_ne (x := (.inr (12, [.ref (n), .ref (n + 7), .null, .ref (n + 4), .null, .null, .int (0), .int (0), .int (0)]))) (a := a) h6 (Nat.ne_of_lt (Nat.lt_of_lt_of_le hlt (Nat.le_add_right n 6)))
  have h7 := gUp_ne (x := (.inr (12, [.ref (n), .ref (n + 7), .null, .ref (n + 4), .null, .null, .int (0), .int (0), .int (0)]))) (a := a) h7 (Nat.ne_of_lt (Nat.lt_of_lt_of_le hlt (Nat.le_add_right n 7)))
  have h8 := gUp_ne (x := (.inr (12, [.ref (n), .ref (n + 7), .null, .ref (n + 4), .null, .null, .int (0), .int (0), .int (0)]))) (a := a) h8 (Nat.ne_of_lt (Nat.lt_of_lt_of_le hlt (Nat.le_add_right n 8)))
  have ha := gUp_at (x := (.inr (12, [.ref (n), .ref (n + 7), .null, .ref (n + 4), .null, .null, .int (0), .int (0), .int (0)]))) ha
  generalize gUp G8 (a) (.inr (12, [.ref (n), .ref (n + 7), .null, .ref (n + 4), .null, .null, .int (0), .int (0), .int (0)])) = G9 at z9 s9 k9 ha h0 h1 h2 h3 h4 h5 h6 h7 h8 ⊢
  clear z8 s8 k8
  refine g_aload_n d_Mill_init_41 rfl ?_
  refine g_new kc_Pile cl_Mill_23 ki_Pile.1 ki_Pile.2 (fs := [.null, .int (0)]) (by decide +kernel) (by omega) (by omega) d_Mill_init_42 ?_
  rw [z9]
  have z10 : (gNew G9 (.inr (3, [.null, .int (0)])) 2).2.1 = n + 10 := by show G9.2.1 + 1 = _; omega
  have s10 : (gNew G9 (.inr (3, [.null, .int (0)])) 2).2.2 = sl + 746 := by show G9.2.2 + 2 = _; omega
  have k10 := k9.new (x := (.inr (3, [.null, .int (0)]))) (n := 2) (by omega)
  have ha := gNew_ne (x := (.inr (3, [.null, .int (0)]))) (n := 2) ha (by omega)
  have h0 := gNew_ne (x := (.inr (3, [.null, .int (0)]))) (n := 2) h0 (by omega)
  have h1 := gNew_ne (x := (.inr (3, [.null, .int (0)]))) (n := 2) h1 (by omega)
  have h2 := gNew_ne (x := (.inr (3, [.null, .int (0)]))) (n := 2) h2 (by omega)
  have h3 := gNew_ne (x := (.inr (3, [.null, .int (0)]))) (n := 2) h3 (by omega)
  have h4 := gNew_ne (x := (.inr (3, [.null, .int (0)]))) (n := 2) h4 (by omega)
  have h5 := gNew_ne (x := (.inr (3, [.null, .int (0)]))) (n := 2) h5 (by omega)
  have h6 := gNew_ne (x := (.inr (3, [.null, .int (0)]))) (n := 2) h6 (by omega)
  have h7 := gNew_ne (x := (.inr (3, [.null, .int (0)]))) (n := 2) h7 (by omega)
  have h8 := gNew_ne (x := (.inr (3, [.null, .int (0)]))) (n := 2) h8 (by omega)
  have h9 : (gNew G9 (.inr (3, [.null, .int (0)])) 2).1 (n + 9) = some (.inr (3, [.null, .int (0)])) := by rw [← z9]; exact gNew_at
  generalize gNew G9 (.inr (3, [.null, .int (0)])) 2 = G10 at z10 s10 k10 ha h0 h1 h2 h3 h4 h5 h6 h7 h8 h9 ⊢
  clear z9 s9 k9
  refine g_dup d_Mill_init_45 rfl ?_
  refine c_INx (as := []) kn_Pile_init ml_Mill_25 (m_Pile_init h9 z10 s10 (by omega) (by omega) (by omega)) rfl (Nat.le_of_ble_eq_true rfl) rfl d_Mill_init_46 rfl (fun G11 hq => ?_)
  obtain ⟨z11, s11, kk, h9, h10⟩ := hq
  have ha := (kk _ (by omega) (Nat.ne_of_lt (Nat.lt_of_lt_of_le hlt (Nat.le_add_right n 9)))).trans ha
  have h0 := (kk _ (by omega) (Nat.ne_of_lt (Nat.add_lt_add_left (show 0 < 9 by decide) n))).trans h0
  have h1 := (kk _ (by omega) (Nat.ne_of_lt (Nat.add_lt_add_left (show 1 < 9 by decide) n))).trans h1
  have h2 := (kk _ (by omega) (Nat.ne_of_lt (Nat.add_lt_add_left (show 2 < 9 by decide) n))).trans h2
  have h3 := (kk _ (by omega) (Nat.ne_of_lt (Nat.add_lt_add_left (show 3 < 9 by decide) n))).trans h3
  have h4 := (kk _ (by omega) (Nat.ne_of_lt (Nat.add_lt_add_left (show 4 < 9 by decide) n))).trans h4
  have h5 := (kk _ (by omega) (Nat.ne_of_lt (Nat.add_lt_add_left (show 5 < 9 by decide) n))).trans h5
  have h6 := (kk _ (by omega) (Nat.ne_of_lt (Nat.add_lt_add_left (show 6 < 9 by decide) n))).trans h6
  have h7 := (kk _ (by omega) (Nat.ne_of_lt (Nat.add_lt_add_left (show 7 < 9 by decide) n))).trans h7
  have h8 := (kk _ (by omega) (Nat.ne_of_lt (Nat.add_lt_add_left (show 8 < 9 by decide) n))).trans h8
  have k11 := k10.then kk (by omega) (Or.inr (by omega))
  have z11 : G11.2.1 = n + 11 := by omega
  have s11 : G11.2.2 = sl + 786 := by omega
  have h9 : G11.1 (n + 9) = some (.inr (3, [.ref (n + 10), .int (0)])) := h9
  have h10 : G11.1 (n + 10) = some (gAT E 40 (fun _ => none)) := h10
  clear z10 s10 k10 kk
  refine g_putF (fs' := [.ref (n), .ref (n + 7), .ref (n + 9), .ref (n + 4), .null, .null, .int (0), .int (0), .int (0)]) kc_Mill fl_Mill_30 (by decide) ha rfl rfl rfl rfl rfl (Nat.le_of_ble_eq_true rfl) rfl d_Mill_init_49 ?_
  have z12 : (gUp G11 (a) (.inr (12, [.ref (n), .ref (n + 7), .ref (n + 9), .ref (n + 4), .null, .null, .int (0), .int (0), .int (0)]))).2.1 = n + 11 := z11
  have s12 : (gUp G11 (a) (.inr (12, [.ref (n), .ref (n + 7), .ref (n + 9), .ref (n + 4), .null, .null, .int (0), .int (0), .int (0)]))).2.2 = sl + 786 := s11
  have k12 := k11.up (x := (.inr (12, [.ref (n), .ref (n + 7), .ref (n + 9), .ref (n + 4), .null, .null, .int (0), .int (0), .int (0)]))) (b := a) (Or.inl rfl)
  have h0 := gUp_ne (x := (.inr (12, [.ref (n), .ref (n + 7), .ref (n + 9), .ref (n + 4), .null, .null, .int (0), .int (0), .int (0)]))) (a := a) h0 (Nat.ne_of_lt (Nat.lt_of_lt_of_le hlt (Nat.le_add_right n 0)))
  have h1 := gUp_ne (x := (.inr (12, [.ref (n), .ref (n + 7), .ref (n + 9), .ref (n + 4), .null, .null, .int (0), .int (0), .int (0)]))) (a := a) h1 (Nat.ne_of_lt (Nat.lt_of_lt_of_le hlt (Nat.le_add_right n 1)))
  have h2 := gUp_ne (x := (.inr (12, [.ref (n), .ref (n + 7), .ref (n + 9), .ref (n + 4), .null, .null, .int (0), .int (0), .int (0)]))) (a := a) h2 (Nat.ne_of_lt (Nat.lt_of_lt_of_le hlt (Nat.le_add_right n 2)))
  have h3 := gUp_ne (x := (.inr (12, [.ref (n), .ref (n + 7), .ref (n + 9), .ref (n + 4), .null, .null, .int (0), .int (0), .int (0)]))) (a := a) h3 (Nat.ne_of_lt (Nat.lt_of_lt_of_le hlt (Nat.le_add_right n 3)))
  have h4 := gUp_ne (x := (.inr (12, [.ref (n), .ref (n + 7), .ref (n + 9), .ref (n + 4), .null, .null, .int (0), .int (0), .int (0)]))) (a := a) h4 (Nat.ne_of_lt (Nat.lt_of_lt_of_le hlt (Nat.le_add_right n 4)))
  have h5 := gUp_ne (x := (.inr (12, [.ref (n), .ref (n + 7), .ref (n + 9), .ref (n + 4), .null, .null, .int (0), .int (0), .int (0)]))) (a := a) h5 (Nat.ne_of_lt (Nat.lt_of_lt_of_le hlt (Nat.le_add_right n 5)))
  have h6 := gUp_ne (x := (.inr (12, [.ref (n), .ref (n + 7), .ref (n + 9), .ref (n + 4), .null, .null, .int (0), .int (0), .int (0)]))) (a := a) h6 (Nat.ne_of_lt (Nat.lt_of_lt_of_le hlt (Nat.le_add_right n 6)))
  have h7 := gUp_ne (x := (.inr (12, [.ref (n), .ref (n + 7), .ref (n + 9), .ref (n + 4), .null, .null, .int (0), .int (0), .int (0)]))) (a := a) h7 (Nat.ne_of_lt (Nat.lt_of_lt_of_le hlt (Nat.le_add_right n 7)))
  have h8 := gUp_ne (x := (.inr (12, [.ref (n), .ref (n + 7), .ref (n + 9), .ref (n + 4), .null, .null, .int (0), .int (0), .int (0)]))) (a := a) h8 (Nat.ne_of_lt (Nat.lt_of_lt_of_le hlt (Nat.le_add_right n 8)))
  have h9 := gUp_ne (x := (.inr (12, [.ref (n), .ref (n + 7), .ref (n + 9), .ref (n + 4), .null, .null, .int (0), .int (0), .int (0)]))) (a := a) h9 (Nat.ne_of_lt (Nat.lt_of_lt_of_le hlt (Nat.le_add_right n 9)))
  have h10 := gUp_ne (x := (.inr (12, [.ref (n), .ref (n + 7), .ref (n + 9), .ref (n + 4), .null, .null, .int (0), .int (0), .int (0)]))) (a := a) h10 (Nat.ne_of_lt (Nat.lt_of_lt_of_le hlt (Nat.le_add_right n 10)))
  have ha := gUp_at (x := (.inr (12, [.ref (n), .ref (n + 7), .ref (n + 9), .ref (n + 4), .null, .null, .int (0), .int (0), .int (0)]))) ha
  generalize gUp G11 (a) (.inr (12, [.ref (n), .ref (n + 7), .ref (n + 9), .ref (n + 4), .null, .null, .int (0), .int (0), .int (0)])) = G12 at z12 s12 k12 ha h0 h1 h2 h3 h4 h5 h6 h7 h8 h9 h10 ⊢
  clear z11 s11 k11
  refine g_aload_n d_Mill_init_52 rfl ?_
  refine g_new kc_Tree cl_Mill_33 ki_Tree.1 ki_Tree.2 (fs := [.null, .null, .null, .null, .null, .null, .null, .int (0), .int (0), .int (0), .int (0), .int (0), .int (0), .int (0)]) (by decide +kernel) (by omega) (by omega) d_Mill_init_53 ?_
  rw [z12]
  have z13 : (gNew G12 (.inr (10, [.null, .null, .null, .null, .null, .null, .null, .int (0), .int (0), .int (0), .int (0), .int (0), .int (0), .int (0)])) 14).2.1 = n + 12 := by show G12.2.1 + 1 = _; omega
  have s13 : (gNew G12 (.inr (10, [.null, .null, .null, .null, .null, .null, .null, .int (0), .int (0), .int (0), .int (0), .int (0), .int (0), .int (0)])) 14).2.2 = sl + 800 := by show G12.2.2 + 14 = _; omega
  have k13 := k12.new (x := (.inr (10, [.null, .null, .null, .null, .null, .null, .null, .int (0), .int (0), .int (0), .int (0), .int (0), .int (0), .int (0)]))) (n := 14) (by omega)
  have ha := gNew_ne (x := (.inr (10, [.null, .null, .null, .null, .null, .null, .null, .int (0), .int (0), .int (0), .int (0), .int (0), .int (0), .int (0)]))) (n := 14) ha (by omega)
  have h0 := gNew_ne (x := (.inr (10, [.null, .null, .null, .null, .null, .null, .null, .int (0), .int (0), .int (0), .int (0), .int (0), .int (0), .int (0)]))) (n := 14) h0 (by omega)
  have h1 := gNew_ne (x := (.inr (10, [.null, .null, .null, .null, .null, .null, .null, .int (0), .int (0), .int (0), .int (0), .int (0), .int (0), .int (0)]))) (n := 14) h1 (by omega)
  have h2 := gNew_ne (x := (.inr (10, [.null, .null, .null, .null, .null, .null, .null, .int (0), .int (0), .int (0), .int (0), .int (0), .int (0), .int (0)]))) (n := 14) h2 (by omega)
  have h3 := gNew_ne (x := (.inr (10, [.null, .null, .null, .null, .null, .null, .null, .int (0), .int (0), .int (0), .int (0), .int (0), .int (0), .int (0)]))) (n := 14) h3 (by omega)
  have h4 := gNew_ne (x := (.inr (10, [.null, .null, .null, .null, .null, .null, .null, .int (0), .int (0), .int (0), .int (0), .int (0), .int (0), .int (0)]))) (n := 14) h4 (by omega)
  have h5 := gNew_ne (x := (.inr (10, [.null, .null, .null, .null, .null, .null, .null, .int (0), .int (0), .int (0), .int (0), .int (0), .int (0), .int (0)]))) (n := 14) h5 (by omega)
  have h6 := gNew_ne (x := (.inr (10, [.null, .null, .null, .null, .null, .null, .null, .int (0), .int (0), .int (0), .int (0), .int (0), .int (0), .int (0)]))) (n := 14) h6 (by omega)
  have h7 := gNew_ne (x := (.inr (10, [.null, .null, .null, .null, .null, .null, .null, .int (0), .int (0), .int (0), .int (0), .int (0), .int (0), .int (0)]))) (n := 14) h7 (by omega)
  have h8 := gNew_ne (x := (.inr (10, [.null, .null, .null, .null, .null, .null, .null, .int (0), .int (0), .int (0), .int (0), .int (0), .int (0), .int (0)]))) (n := 14) h8 (by omega)
  have h9 := gNew_ne (x := (.inr (10, [.null, .null, .null, .null, .null, .null, .null, .int (0), .int (0), .int (0), .int (0), .int (0), .int (0), .int (0)]))) (n := 14) h9 (by omega)
  have h10 := gNew_ne (x := (.inr (10, [.null, .null, .null, .null, .null, .null, .null, .int (0), .int (0), .int (0), .int (0), .int (0), .int (0), .int (0)]))) (n := 14) h10 (by omega)
  have h11 : (gNew G12 (.inr (10, [.null, .null, .null, .null, .null, .null, .null, .int (0), .int (0), .int (0), .int (0), .int (0), .int (0), .int (0)])) 14).1 (n + 11) = some (.inr (10, [.null, .null, .null, .null, .null, .null, .null, .int (0), .int (0), .int (0), .int (0), .int (0), .int (0), .int (0)])) := by rw [← z12]; exact gNew_at
  generalize gNew G12 (.inr (10, [.null, .null, .null, .null, .null, .null, .null, .int (0), .int (0), .int (0), .int (0), .int (0), .int (0), .int (0)])) 14 = G13 at z13 s13 k13 ha h0 h1 h2 h3 h4 h5 h6 h7 h8 h9 h10 h11 ⊢
  clear z12 s12 k12
  refine g_dup d_Mill_init_56 rfl ?_
  refine g_aload_n d_Mill_init_57 rfl ?_
  refine g_aload_n d_Mill_init_58 rfl ?_
  refine c_Ix (as := [.ref (n), .ref (n + 4)]) kn_Tree_init ml_Mill_35 (m_Tree_init h11 z13 s13 (by omega) (by omega) (by omega)) rfl (Nat.le_of_ble_eq_true rfl) rfl d_Mill_init_59 rfl (fun G14 hq => ?_)
  obtain ⟨z14, s14, kk, h11, h12, h13, h14, h15, h16, h17, h18⟩ := hq
  have ha := (kk _ (by omega) (Nat.ne_of_lt (Nat.lt_of_lt_of_le hlt (Nat.le_add_right n 11)))).trans ha
  have h0 := (kk _ (by omega) (Nat.ne_of_lt (Nat.add_lt_add_left (show 0 < 11 by decide) n))).trans h0
  have h1 := (kk _ (by omega) (Nat.ne_of_lt (Nat.add_lt_add_left (show 1 < 11 by decide) n))).trans h1
  have h2 := (kk _ (by omega) (Nat.ne_of_lt (Nat.add_lt_add_left (show 2 < 11 by decide) n))).trans h2
  have h3 := (kk _ (by omega) (Nat.ne_of_lt (Nat.add_lt_add_left (show 3 < 11 by decide) n))).trans h3
  have h4 := (kk _ (by omega) (Nat.ne_of_lt (Nat.add_lt_add_left (show 4 < 11 by decide) n))).trans h4
  have h5 := (kk _ (by omega) (Nat.ne_of_lt (Nat.add_lt_add_left (show 5 < 11 by decide) n))).trans h5
  have h6 := (kk _ (by omega) (Nat.ne_of_lt (Nat.add_lt_add_left (show 6 < 11 by decide) n))).trans h6
  have h7 := (kk _ (by omega) (Nat.ne_of_lt (Nat.add_lt_add_left (show 7 < 11 by decide) n))).trans h7
  have h8 := (kk _ (by omega) (Nat.ne_of_lt (Nat.add_lt_add_left (show 8 < 11 by decide) n))).trans h8
  have h9 := (kk _ (by omega) (Nat.ne_of_lt (Nat.add_lt_add_left (show 9 < 11 by decide) n))).trans h9
  have h10 := (kk _ (by omega) (Nat.ne_of_lt (Nat.add_lt_add_left (show 10 < 11 by decide) n))).trans h10
  have k14 := k13.then kk (by omega) (Or.inr (by omega))
  have z14 : G14.2.1 = n + 19 := by omega
  have s14 : G14.2.2 = sl + 8015 := by omega
  have h11 : G14.1 (n + 11) = some (.inr (10, [.ref (n), .ref (n + 4), .ref (n + 12), .ref (n + 14), .ref (n + 16), .ref (n + 17), .ref (n + 18), .int (0), .int (0), .int (0), .int (0), .int (0), .int (0), .int (0)])) := h11
  have h12 : G14.1 (n + 12) = some (.inr (8, [.ref (n + 13), .int (0)])) := h12
  have h13 : G14.1 (n + 13) = some (.inr (0, [.int (0), .ref (gDef E), .int (0)])) := h13
  have h14 : G14.1 (n + 14) = some (.inr (5, [.ref (n + 15), .int (0)])) := h14
  have h15 : G14.1 (n + 15) = some (.inr (0, [.int (0), .ref (gDef E), .int (0)])) := h15
  have h16 : G14.1 (n + 16) = some (.inr (0, [.int (0), .ref (gDef E), .int (0)])) := h16
  have h17 : G14.1 (n + 17) = some (gAI E 800 (fun _ => 0)) := h17
  have h18 : G14.1 (n + 18) = some (gAI E 6402 (fun _ => 0)) := h18
  clear z13 s13 k13 kk
  refine g_putF (fs' := [.ref (n), .ref (n + 7), .ref (n + 9), .ref (n + 4), .ref (n + 11), .null, .int (0), .int (0), .int (0)]) kc_Mill fl_Mill_38 (by decide) ha rfl rfl rfl rfl rfl (Nat.le_of_ble_eq_true rfl) rfl d_Mill_init_62 ?_
  have z15 : (gUp G14 (a) (.inr (12, [.ref (n), .ref (n + 7), .ref (n + 9), .ref (n + 4), .ref (n + 11), .null, .int (0), .int (0), .int (0)]))).2.1 = n + 19 := z14
  have s15 : (gUp G14 (a) (.inr (12, [.ref (n), .ref (n + 7), .ref (n + 9), .ref (n + 4), .ref (n + 11), .null, .int (0), .int (0), .int (0)]))).2.2 = sl + 8015 := s14
  have k15 := k14.up (x := (.inr (12, [.ref (n), .ref (n + 7), .ref (n + 9), .ref (n + 4), .ref (n + 11), .null, .int (0), .int (0), .int (0)]))) (b := a) (Or.inl rfl)
  have h0 := gUp_ne (x := (.inr (12, [.ref (n), .ref (n + 7), .ref (n + 9), .ref (n + 4), .ref (n + 11), .null, .int (0), .int (0), .int (0)]))) (a := a) h0 (Nat.ne_of_lt (Nat.lt_of_lt_of_le hlt (Nat.le_add_right n 0)))
  have h1 := gUp_ne (x := (.inr (12, [.ref (n), .ref (n + 7), .ref (n + 9), .ref (n + 4), .ref (n + 11), .null, .int (0), .int (0), .int (0)]))) (a := a) h1 (Nat.ne_of_lt (Nat.lt_of_lt_of_le hlt (Nat.le_add_right n 1)))
  have h2 := gUp_ne (x := (.inr (12, [.ref (n), .ref (n + 7), .ref (n + 9), .ref (n + 4), .ref (n + 11), .null, .int (0), .int (0), .int (0)]))) (a := a) h2 (Nat.ne_of_lt (Nat.lt_of_lt_of_le hlt (Nat.le_add_right n 2)))
  have h3 := gUp_ne (x := (.inr (12, [.ref (n), .ref (n + 7), .ref (n + 9), .ref (n + 4), .ref (n + 11), .null, .int (0), .int (0), .int (0)]))) (a := a) h3 (Nat.ne_of_lt (Nat.lt_of_lt_of_le hlt (Nat.le_add_right n 3)))
  have h4 := gUp_ne (x := (.inr (12, [.ref (n), .ref (n + 7), .ref (n + 9), .ref (n + 4), .ref (n + 11), .null, .int (0), .int (0), .int (0)]))) (a := a) h4 (Nat.ne_of_lt (Nat.lt_of_lt_of_le hlt (Nat.le_add_right n 4)))
  have h5 := gUp_ne (x := (.inr (12, [.ref (n), .ref (n + 7), .ref (n + 9), .ref (n + 4), .ref (n + 11), .null, .int (0), .int (0), .int (0)]))) (a := a) h5 (Nat.ne_of_lt (Nat.lt_of_lt_of_le hlt (Nat.le_add_right n 5)))
  have h6 := gUp_ne (x := (.inr (12, [.ref (n), .ref (n + 7), .ref (n + 9), .ref (n + 4), .ref (n + 11), .null, .int (0), .int (0), .int (0)]))) (a := a) h6 (Nat.ne_of_lt (Nat.lt_of_lt_of_le hlt (Nat.le_add_right n 6)))
  have h7 := gUp_ne (x := (.inr (12, [.ref (n), .ref (n + 7), .ref (n + 9), .ref (n + 4), .ref (n + 11), .null, .int (0), .int (0), .int (0)]))) (a := a) h7 (Nat.ne_of_lt (Nat.lt_of_lt_of_le hlt (Nat.le_add_right n 7)))
  have h8 := gUp_ne (x := (.inr (12, [.ref (n), .ref (n + 7), .ref (n + 9), .ref (n + 4), .ref (n + 11), .null, .int (0), .int (0), .int (0)]))) (a := a) h8 (Nat.ne_of_lt (Nat.lt_of_lt_of_le hlt (Nat.le_add_right n 8)))
  have h9 := gUp_ne (x := (.inr (12, [.ref (n), .ref (n + 7), .ref (n + 9), .ref (n + 4), .ref (n + 11), .null, .int (0), .int (0), .int (0)]))) (a := a) h9 (Nat.ne_of_lt (Nat.lt_of_lt_of_le hlt (Nat.le_add_right n 9)))
  have h10 := gUp_ne (x := (.inr (12, [.ref (n), .ref (n + 7), .ref (n + 9), .ref (n + 4), .ref (n + 11), .null, .int (0), .int (0), .int (0)]))) (a := a) h10 (Nat.ne_of_lt (Nat.lt_of_lt_of_le hlt (Nat.le_add_right n 10)))
  have h11 := gUp_ne (x := (.inr (12, [.ref (n), .ref (n + 7), .ref (n + 9), .ref (n + 4), .ref (n + 11), .null, .int (0), .int (0), .int (0)]))) (a := a) h11 (Nat.ne_of_lt (Nat.lt_of_lt_of_le hlt (Nat.le_add_right n 11)))
  have h12 := gUp_ne (x := (.inr (12, [.ref (n), .ref (n + 7), .ref (n + 9), .ref (n + 4), .ref (n + 11), .null, .int (0), .int (0), .int (0)]))) (a := a) h12 (Nat.ne_of_lt (Nat.lt_of_lt_of_le hlt (Nat.le_add_right n 12)))
  have h13 := gUp_ne (x := (.inr (12, [.ref (n), .ref (n + 7), .ref (n + 9), .ref (n + 4), .ref (n + 11), .null, .int (0), .int (0), .int (0)]))) (a := a) h13 (Nat.ne_of_lt (Nat.lt_of_lt_of_le hlt (Nat.le_add_right n 13)))
  have h14 := gUp_ne (x := (.inr (12, [.ref (n), .ref (n + 7), .ref (n + 9), .ref (n + 4), .ref (n + 11), .null, .int (0), .int (0), .int (0)]))) (a := a) h14 (Nat.ne_of_lt (Nat.lt_of_lt_of_le hlt (Nat.le_add_right n 14)))
  have h15 := gUp_ne (x := (.inr (12, [.ref (n), .ref (n + 7), .ref (n + 9), .ref (n + 4), .ref (n + 11), .null, .int (0), .int (0), .int (0)]))) (a := a) h15 (Nat.ne_of_lt (Nat.lt_of_lt_of_le hlt (Nat.le_add_right n 15)))
  have h16 := gUp_ne (x := (.inr (12, [.ref (n), .ref (n + 7), .ref (n + 9), .ref (n + 4), .ref (n + 11), .null, .int (0), .int (0), .int (0)]))) (a := a) h16 (Nat.ne_of_lt (Nat.lt_of_lt_of_le hlt (Nat.le_add_right n 16)))
  have h17 := gUp_ne (x := (.inr (12, [.ref (n), .ref (n + 7), .ref (n + 9), .ref (n + 4), .ref (n + 11), .null, .int (0), .int (0), .int (0)]))) (a := a) h17 (Nat.ne_of_lt (Nat.lt_of_lt_of_le hlt (Nat.le_add_right n 17)))
  have h18 := gUp_ne (x := (.inr (12, [.ref (n), .ref (n + 7), .ref (n + 9), .ref (n + 4), .ref (n + 11), .null, .int (0), .int (0), .int (0)]))) (a := a) h18 (Nat.ne_of_lt (Nat.lt_of_lt_of_le hlt (Nat.le_add_right n 18)))
  have ha := gUp_at (x := (.inr (12, [.ref (n), .ref (n + 7), .ref (n + 9), .ref (n + 4), .ref (n + 11), .null, .int (0), .int (0), .int (0)]))) ha
  generalize gUp G14 (a) (.inr (12, [.ref (n), .ref (n + 7), .ref (n + 9), .ref (n + 4), .ref (n + 11), .null, .int (0), .int (0), .int (0)])) = G15 at z15 s15 k15 ha h0 h1 h2 h3 h4 h5 h6 h7 h8 h9 h10 h11 h12 h13 h14 h15 h16 h17 h18 ⊢
  clear z14 s14 k14
  refine g_aload_n d_Mill_init_65 rfl ?_
  refine g_new kc_Passage cl_Mill_42 ki_Passage.1 ki_Passage.2 (fs := [.null, .null, .null, .int (0)]) (by decide +kernel) (by omega) (by omega) d_Mill_init_66 ?_
  rw [z15]
  have z16 : (gNew G15 (.inr (2, [.null, .null, .null, .int (0)])) 4).2.1 = n + 20 := by show G15.2.1 + 1 = _; omega
  have s16 : (gNew G15 (.inr (2, [.null, .null, .null, .int (0)])) 4).2.2 = sl + 8019 := by show G15.2.2 + 4 = _; omega
  have k16 := k15.new (x := (.inr (2, [.null, .null, .null, .int (0)]))) (n := 4) (by omega)
  have ha := gNew_ne (x := (.inr (2, [.null, .null, .null, .int (0)]))) (n := 4) ha (by omega)
  have h0 := gNew_ne (x := (.inr (2, [.null, .null, .null, .int (0)]))) (n := 4) h0 (by omega)
  have h1 := gNew_ne (x := (.inr (2, [.null, .null, .null, .int (0)]))) (n := 4) h1 (by omega)
  have h2 := gNew_ne (x := (.inr (2, [.null, .null, .null, .int (0)]))) (n := 4) h2 (by omega)
  have h3 := gNew_ne (x := (.inr (2, [.null, .null, .null, .int (0)]))) (n := 4) h3 (by omega)
  have h4 := gNew_ne (x := (.inr (2, [.null, .null, .null, .int (0)]))) (n := 4) h4 (by omega)
  have h5 := gNew_ne (x := (.inr (2, [.null, .null, .null, .int (0)]))) (n := 4) h5 (by omega)
  have h6 := gNew_ne (x := (.inr (2, [.null, .null, .null, .int (0)]))) (n := 4) h6 (by omega)
  have h7 := gNew_ne (x := (.inr (2, [.null, .null, .null, .int (0)]))) (n := 4) h7 (by omega)
  have h8 := gNew_ne (x := (.inr (2, [.null, .null, .null, .int (0)]))) (n := 4) h8 (by omega)
  have h9 := gNew_ne (x := (.inr (2, [.null, .null, .null, .int (0)]))) (n := 4) h9 (by omega)
  have h10 := gNew_ne (x := (.inr (2, [.null, .null, .null, .int (0)]))) (n := 4) h10 (by omega)
  have h11 := gNew_ne (x := (.inr (2, [.null, .null, .null, .int (0)]))) (n := 4) h11 (by omega)
  have h12 := gNew_ne (x := (.inr (2, [.null, .null, .null, .int (0)]))) (n := 4) h12 (by omega)
  have h13 := gNew_ne (x := (.inr (2, [.null, .null, .null, .int (0)]))) (n := 4) h13 (by omega)
  have h14 := gNew_ne (x := (.inr (2, [.null, .null, .null, .int (0)]))) (n := 4) h14 (by omega)
  have h15 := gNew_ne (x := (.inr (2, [.null, .null, .null, .int (0)]))) (n := 4) h15 (by omega)
  have h16 := gNew_ne (x := (.inr (2, [.null, .null, .null, .int (0)]))) (n := 4) h16 (by omega)
  have h17 := gNew_ne (x := (.inr (2, [.null, .null, .null, .int (0)]))) (n := 4) h17 (by omega)
  have h18 := gNew_ne (x := (.inr (2, [.null, .null, .null, .int (0)]))) (n := 4) h18 (by omega)
  have h19 : (gNew G15 (.inr (2, [.null, .null, .null, .int (0)])) 4).1 (n + 19) = some (.inr (2, [.null, .null, .null, .int (0)])) := by rw [← z15]; exact gNew_at
  generalize gNew G15 (.inr (2, [.null, .null, .null, .int (0)])) 4 = G16 at z16 s16 k16 ha h0 h1 h2 h3 h4 h5 h6 h7 h8 h9 h10 h11 h12 h13 h14 h15 h16 h17 h18 h19 ⊢
  clear z15 s15 k15
  refine g_dup d_Mill_init_69 rfl ?_
  refine c_INx (as := []) kn_Passage_init ml_Mill_44 (m_Passage_init h19 z16 s16 (by omega) (by omega) (by omega)) rfl (Nat.le_of_ble_eq_true rfl) rfl d_Mill_init_70 rfl (fun G17 hq => ?_)
  obtain ⟨z17, s17, kk, h19, h20, h21, h22⟩ := hq
  have ha := (kk _ (by omega) (Nat.ne_of_lt (Nat.lt_of_lt_of_le hlt (Nat.le_add_right n 19)))).trans ha
  have h0 := (kk _ (by omega) (Nat.ne_of_lt (Nat.add_lt_add_left (show 0 < 19 by decide) n))).trans h0
  have h1 := (kk _ (by omega) (Nat.ne_of_lt (Nat.add_lt_add_left (show 1 < 19 by decide) n))).trans h1
  have h2 := (kk _ (by omega) (Nat.ne_of_lt (Nat.add_lt_add_left (show 2 < 19 by decide) n))).trans h2
  have h3 := (kk _ (by omega) (Nat.ne_of_lt (Nat.add_lt_add_left (show 3 < 19 by decide) n))).trans h3
  have h4 := (kk _ (by omega) (Nat.ne_of_lt (Nat.add_lt_add_left (show 4 < 19 by decide) n))).trans h4
  have h5 := (kk _ (by omega) (Nat.ne_of_lt (Nat.add_lt_add_left (show 5 < 19 by decide) n))).trans h5
  have h6 := (kk _ (by omega) (Nat.ne_of_lt (Nat.add_lt_add_left (show 6 < 19 by decide) n))).trans h6
  have h7 := (kk _ (by omega) (Nat.ne_of_lt (Nat.add_lt_add_left (show 7 < 19 by decide) n))).trans h7
  have h8 := (kk _ (by omega) (Nat.ne_of_lt (Nat.add_lt_add_left (show 8 < 19 by decide) n))).trans h8
  have h9 := (kk _ (by omega) (Nat.ne_of_lt (Nat.add_lt_add_left (show 9 < 19 by decide) n))).trans h9
  have h10 := (kk _ (by omega) (Nat.ne_of_lt (Nat.add_lt_add_left (show 10 < 19 by decide) n))).trans h10
  have h11 := (kk _ (by omega) (Nat.ne_of_lt (Nat.add_lt_add_left (show 11 < 19 by decide) n))).trans h11
  have h12 := (kk _ (by omega) (Nat.ne_of_lt (Nat.add_lt_add_left (show 12 < 19 by decide) n))).trans h12
  have h13 := (kk _ (by omega) (Nat.ne_of_lt (Nat.add_lt_add_left (show 13 < 19 by decide) n))).trans h13
  have h14 := (kk _ (by omega) (Nat.ne_of_lt (Nat.add_lt_add_left (show 14 < 19 by decide) n))).trans h14
  have h15 := (kk _ (by omega) (Nat.ne_of_lt (Nat.add_lt_add_left (show 15 < 19 by decide) n))).trans h15
  have h16 := (kk _ (by omega) (Nat.ne_of_lt (Nat.add_lt_add_left (show 16 < 19 by decide) n))).trans h16
  have h17 := (kk _ (by omega) (Nat.ne_of_lt (Nat.add_lt_add_left (show 17 < 19 by decide) n))).trans h17
  have h18 := (kk _ (by omega) (Nat.ne_of_lt (Nat.add_lt_add_left (show 18 < 19 by decide) n))).trans h18
  have k17 := k16.then kk (by omega) (Or.inr (by omega))
  have z17 : G17.2.1 = n + 23 := by omega
  have s17 : G17.2.2 = sl + 8090 := by omega
  have h19 : G17.1 (n + 19) = some (.inr (2, [.ref (n + 20), .ref (n + 21), .ref (n + 22), .int (0)])) := h19
  have h20 : G17.1 (n + 20) = some (gAI E 60 (fun _ => 0)) := h20
  have h21 : G17.1 (n + 21) = some (gAT E 8 (fun _ => none)) := h21
  have h22 : G17.1 (n + 22) = some (.inr (0, [.int (0), .ref (gDef E), .int (0)])) := h22
  clear z16 s16 k16 kk
  refine g_putF (fs' := [.ref (n), .ref (n + 7), .ref (n + 9), .ref (n + 4), .ref (n + 11), .ref (n + 19), .int (0), .int (0), .int (0)]) kc_Mill fl_Mill_45 (by decide) ha rfl rfl rfl rfl rfl (Nat.le_of_ble_eq_true rfl) rfl d_Mill_init_73 ?_
  have z18 : (gUp G17 (a) (.inr (12, [.ref (n), .ref (n + 7), .ref (n + 9), .ref (n + 4), .ref (n + 11), .ref (n + 19), .int (0), .int (0), .int (0)]))).2.1 = n + 23 := z17
  have s18 : (gUp G17 (a) (.inr (12, [.ref (n), .ref (n + 7), .ref (n + 9), .ref (n + 4), .ref (n + 11), .ref (n + 19), .int (0), .int (0), .int (0)]))).2.2 = sl + 8090 := s17
  have k18 := k17.up (x := (.inr (12, [.ref (n), .ref (n + 7), .ref (n + 9), .ref (n + 4), .ref (n + 11), .ref (n + 19), .int (0), .int (0), .int (0)]))) (b := a) (Or.inl rfl)
  have h0 := gUp_ne (x := (.inr (12, [.ref (n), .ref (n + 7), .ref (n + 9), .ref (n + 4), .ref (n + 11), .ref (n + 19), .int (0), .int (0), .int (0)]))) (a := a) h0 (Nat.ne_of_lt (Nat.lt_of_lt_of_le hlt (Nat.le_add_right n 0)))
  have h1 := gUp_ne (x := (.inr (12, [.ref (n), .ref (n + 7), .ref (n + 9), .ref (n + 4), .ref (n + 11), .ref (n + 19), .int (0), .int (0), .int (0)]))) (a := a) h1 (Nat.ne_of_lt (Nat.lt_of_lt_of_le hlt (Nat.le_add_right n 1)))
  have h2 := gUp_ne (x := (.inr (12, [.ref (n), .ref (n + 7), .ref (n + 9), .ref (n + 4), .ref (n + 11), .ref (n + 19), .int (0), .int (0), .int (0)]))) (a := a) h2 (Nat.ne_of_lt (Nat.lt_of_lt_of_le hlt (Nat.le_add_right n 2)))
  have h3 := gUp_ne (x := (.inr (12, [.ref (n), .ref (n + 7), .ref (n + 9), .ref (n + 4), .ref (n + 11), .ref (n + 19), .int (0), .int (0), .int (0)]))) (a := a) h3 (Nat.ne_of_lt (Nat.lt_of_lt_of_le hlt (Nat.le_add_right n 3)))
  have h4 := gUp_ne (x := (.inr (12, [.ref (n), .ref (n + 7), .ref (n + 9), .ref (n + 4), .ref (n + 11), .ref (n + 19), .int (0), .int (0), .int (0)]))) (a := a) h4 (Nat.ne_of_lt (Nat.lt_of_lt_of_le hlt (Nat.le_add_right n 4)))
  have h5 := gUp_ne (x := (.inr (12, [.ref (n), .ref (n + 7), .ref (n + 9), .ref (n + 4), .ref (n + 11), .ref (n + 19), .int (0), .int (0), .int (0)]))) (a := a) h5 (Nat.ne_of_lt (Nat.lt_of_lt_of_le hlt (Nat.le_add_right n 5)))
  have h6 := gUp_ne (x := (.inr (12, [.ref (n), .ref (n + 7), .ref (n + 9), .ref (n + 4), .ref (n + 11), .ref (n + 19), .int (0), .int (0), .int (0)]))) (a := a) h6 (Nat.ne_of_lt (Nat.lt_of_lt_of_le hlt (Nat.le_add_right n 6)))
  have h7 := gUp_ne (x := (.inr (12, [.ref (n), .ref (n + 7), .ref (n + 9), .ref (n + 4), .ref (n + 11), .ref (n + 19), .int (0), .int (0), .int (0)]))) (a := a) h7 (Nat.ne_of_lt (Nat.lt_of_lt_of_le hlt (Nat.le_add_right n 7)))
  have h8 := gUp_ne (x := (.inr (12, [.ref (n), .ref (n + 7), .ref (n + 9), .ref (n + 4), .ref (n + 11), .ref (n + 19), .int (0), .int (0), .int (0)]))) (a := a) h8 (Nat.ne_of_lt (Nat.lt_of_lt_of_le hlt (Nat.le_add_right n 8)))
  have h9 := gUp_ne (x := (.inr (12, [.ref (n), .ref (n + 7), .ref (n + 9), .ref (n + 4), .ref (n + 11), .ref (n + 19), .int (0), .int (0), .int (0)]))) (a := a) h9 (Nat.ne_of_lt (Nat.lt_of_lt_of_le hlt (Nat.le_add_right n 9)))
  have h10 := gUp_ne (x := (.inr (12, [.ref (n), .ref (n + 7), .ref (n + 9), .ref (n + 4), .ref (n + 11), .ref (n + 19), .int (0), .int (0), .int (0)]))) (a := a) h10 (Nat.ne_of_lt (Nat.lt_of_lt_of_le hlt (Nat.le_add_right n 10)))
  have h11 := gUp_ne (x := (.inr (12, [.ref (n), .ref (n + 7), .ref (n + 9), .ref (n + 4), .ref (n + 11), .ref (n + 19), .int (0), .int (0), .int (0)]))) (a := a) h11 (Nat.ne_of_lt (Nat.lt_of_lt_of_le hlt (Nat.le_add_right n 11)))
  have h12 := gUp_ne (x := (.inr (12, [.ref (n), .ref (n + 7), .ref (n + 9), .ref (n + 4), .ref (n + 11), .ref (n + 19), .int (0), .int (0), .int (0)]))) (a := a) h12 (Nat.ne_of_lt (Nat.lt_of_lt_of_le hlt (Nat.le_add_right n 12)))
  have h13 := gUp_ne (x := (.inr (12, [.ref (n), .ref (n + 7), .ref (n + 9), .ref (n + 4), .ref (n + 11), .ref (n + 19), .int (0), .int (0), .int (0)]))) (a := a) h13 (Nat.ne_of_lt (Nat.lt_of_lt_of_le hlt (Nat.le_add_right n 13)))
  have h14 := gUp_ne (x := (.inr (12, [.ref (n), .ref (n + 7), .ref (n + 9), .ref (n + 4), .ref (n + 11), .ref (n + 19), .int (0), .int (0), .int (0)]))) (a := a) h14 (Nat.ne_of_lt (Nat.lt_of_lt_of_le hlt (Nat.le_add_right n 14)))
  have h15 := gUp_ne (x := (.inr (12, [.ref (n), .ref (n + 7), .ref (n + 9), .ref (n + 4), .ref (n + 11), .ref (n + 19), .int (0), .int (0), .int (0)]))) (a := a) h15 (Nat.ne_of_lt (Nat.lt_of_lt_of_le hlt (Nat.le_add_right n 15)))
  have h16 := gUp_ne (x := (.inr (12, [.ref (n), .ref (n + 7), .ref (n + 9), .ref (n + 4), .ref (n + 11), .ref (n + 19), .int (0), .int (0), .int (0)]))) (a := a) h16 (Nat.ne_of_lt (Nat.lt_of_lt_of_le hlt (Nat.le_add_right n 16)))
  have h17 := gUp_ne (x := (.inr (12, [.ref (n), .ref (n + 7), .ref (n + 9), .ref (n + 4), .ref (n + 11), .ref (n + 19), .int (0), .int (0), .int (0)]))) (a := a) h17 (Nat.ne_of_lt (Nat.lt_of_lt_of_le hlt (Nat.le_add_right n 17)))
  have h18 := gUp_ne (x := (.inr (12, [.ref (n), .ref (n + 7), .ref (n + 9), .ref (n + 4), .ref (n + 11), .ref (n + 19), .int (0), .int (0), .int (0)]))) (a := a) h18 (Nat.ne_of_lt (Nat.lt_of_lt_of_le hlt (Nat.le_add_right n 18)))
  have h19 := gUp_ne (x := (.inr (12, [.ref (n), .ref (n + 7), .ref (n + 9), .ref (n + 4), .ref (n + 11), .ref (n + 19), .int (0), .int (0), .int (0)]))) (a := a) h19 (Nat.ne_of_lt (Nat.lt_of_lt_of_le hlt (Nat.le_add_right n 19)))
  have h20 := gUp_ne (x := (.inr (12, [.ref (n), .ref (n + 7), .ref (n + 9), .ref (n + 4), .ref (n + 11), .ref (n + 19), .int (0), .int (0), .int (0)]))) (a := a) h20 (Nat.ne_of_lt (Nat.lt_of_lt_of_le hlt (Nat.le_add_right n 20)))
  have h21 := gUp_ne (x := (.inr (12, [.ref (n), .ref (n + 7), .ref (n + 9), .ref (n + 4), .ref (n + 11), .ref (n + 19), .int (0), .int (0), .int (0)]))) (a := a) h21 (Nat.ne_of_lt (Nat.lt_of_lt_of_le hlt (Nat.le_add_right n 21)))
  have h22 := gUp_ne (x := (.inr (12, [.ref (n), .ref (n + 7), .ref (n + 9), .ref (n + 4), .ref (n + 11), .ref (n + 19), .int (0), .int (0), .int (0)]))) (a := a) h22 (Nat.ne_of_lt (Nat.lt_of_lt_of_le hlt (Nat.le_add_right n 22)))
  have ha := gUp_at (x := (.inr (12, [.ref (n), .ref (n + 7), .ref (n + 9), .ref (n + 4), .ref (n + 11), .ref (n + 19), .int (0), .int (0), .int (0)]))) ha
  generalize gUp G17 (a) (.inr (12, [.ref (n), .ref (n + 7), .ref (n + 9), .ref (n + 4), .ref (n + 11), .ref (n + 19), .int (0), .int (0), .int (0)])) = G18 at z18 s18 k18 ha h0 h1 h2 h3 h4 h5 h6 h7 h8 h9 h10 h11 h12 h13 h14 h15 h16 h17 h18 h19 h20 h21 h22 ⊢
  clear z17 s17 k17
  refine g_vret rfl d_Mill_init_76 ?_
  exact ⟨rfl, z18, s18, k18, ha, h0, h1, h2, h3, h4, h5, h6, h7, h8, h9, h10, h11, h12, h13, h14, h15, h16, h17, h18, h19, h20, h21, h22⟩
end CT

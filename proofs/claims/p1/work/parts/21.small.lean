/-! Pile, Cases, Passage: small methods -/
theorem d_Pile_height_0 : decode Y_Pile_height.2.1 0 = .ok (.aload_n 0, 1) := by decide +kernel
theorem d_Pile_height_1 : decode Y_Pile_height.2.1 1 = .ok (.getfield 17, 3) := by decide +kernel
theorem d_Pile_height_4 : decode Y_Pile_height.2.1 4 = .ok (.ireturn, 1) := by decide +kernel
theorem d_Pile_isFull_0 : decode Y_Pile_isFull.2.1 0 = .ok (.aload_n 0, 1) := by decide +kernel
theorem d_Pile_isFull_1 : decode Y_Pile_isFull.2.1 1 = .ok (.getfield 17, 3) := by decide +kernel
theorem d_Pile_isFull_4 : decode Y_Pile_isFull.2.1 4 = .ok (.bipush 40, 2) := by decide +kernel
theorem d_Pile_isFull_6 : decode Y_Pile_isFull.2.1 6 = .ok (.if_icmp .lt 7, 3) := by decide +kernel
theorem d_Pile_isFull_9 : decode Y_Pile_isFull.2.1 9 = .ok (.iconst 1, 1) := by decide +kernel
theorem d_Pile_isFull_10 : decode Y_Pile_isFull.2.1 10 = .ok (.goto 4, 3) := by decide +kernel
theorem d_Pile_isFull_13 : decode Y_Pile_isFull.2.1 13 = .ok (.iconst 0, 1) := by decide +kernel
theorem d_Pile_isFull_14 : decode Y_Pile_isFull.2.1 14 = .ok (.ireturn, 1) := by decide +kernel
theorem d_Pile_fromTop_0 : decode Y_Pile_fromTop.2.1 0 = .ok (.iload_n 1, 1) := by decide +kernel
theorem d_Pile_fromTop_1 : decode Y_Pile_fromTop.2.1 1 = .ok (.ifCond .lt 27, 3) := by decide +kernel
theorem d_Pile_fromTop_4 : decode Y_Pile_fromTop.2.1 4 = .ok (.iload_n 1, 1) := by decide +kernel
theorem d_Pile_fromTop_5 : decode Y_Pile_fromTop.2.1 5 = .ok (.aload_n 0, 1) := by decide +kernel
theorem d_Pile_fromTop_6 : decode Y_Pile_fromTop.2.1 6 = .ok (.getfield 17, 3) := by decide +kernel
theorem d_Pile_fromTop_9 : decode Y_Pile_fromTop.2.1 9 = .ok (.if_icmp .ge 19, 3) := by decide +kernel
theorem d_Pile_fromTop_12 : decode Y_Pile_fromTop.2.1 12 = .ok (.aload_n 0, 1) := by decide +kernel
theorem d_Pile_fromTop_13 : decode Y_Pile_fromTop.2.1 13 = .ok (.getfield 11, 3) := by decide +kernel
theorem d_Pile_fromTop_16 : decode Y_Pile_fromTop.2.1 16 = .ok (.aload_n 0, 1) := by decide +kernel
theorem d_Pile_fromTop_17 : decode Y_Pile_fromTop.2.1 17 = .ok (.getfield 17, 3) := by decide +kernel
theorem d_Pile_fromTop_20 : decode Y_Pile_fromTop.2.1 20 = .ok (.iconst 1, 1) := by decide +kernel
theorem d_Pile_fromTop_21 : decode Y_Pile_fromTop.2.1 21 = .ok (.isub, 1) := by decide +kernel
theorem d_Pile_fromTop_22 : decode Y_Pile_fromTop.2.1 22 = .ok (.iload_n 1, 1) := by decide +kernel
theorem d_Pile_fromTop_23 : decode Y_Pile_fromTop.2.1 23 = .ok (.isub, 1) := by decide +kernel
theorem d_Pile_fromTop_24 : decode Y_Pile_fromTop.2.1 24 = .ok (.aaload, 1) := by decide +kernel
theorem d_Pile_fromTop_25 : decode Y_Pile_fromTop.2.1 25 = .ok (.goto 4, 3) := by decide +kernel
theorem d_Pile_fromTop_28 : decode Y_Pile_fromTop.2.1 28 = .ok (.aconst_null, 1) := by decide +kernel
theorem d_Pile_fromTop_29 : decode Y_Pile_fromTop.2.1 29 = .ok (.areturn, 1) := by decide +kernel
theorem d_Pile_typeAt_0 : decode Y_Pile_typeAt.2.1 0 = .ok (.aload_n 0, 1) := by decide +kernel
theorem d_Pile_typeAt_1 : decode Y_Pile_typeAt.2.1 1 = .ok (.iload_n 1, 1) := by decide +kernel
theorem d_Pile_typeAt_2 : decode Y_Pile_typeAt.2.1 2 = .ok (.invokevirtual 21, 3) := by decide +kernel
theorem d_Pile_typeAt_5 : decode Y_Pile_typeAt.2.1 5 = .ok (.astore_n 2, 1) := by decide +kernel
theorem d_Pile_typeAt_6 : decode Y_Pile_typeAt.2.1 6 = .ok (.aload_n 2, 1) := by decide +kernel
theorem d_Pile_typeAt_7 : decode Y_Pile_typeAt.2.1 7 = .ok (.ifnonnull 7, 3) := by decide +kernel
theorem d_Pile_typeAt_10 : decode Y_Pile_typeAt.2.1 10 = .ok (.iconst (-1), 1) := by decide +kernel
theorem d_Pile_typeAt_11 : decode Y_Pile_typeAt.2.1 11 = .ok (.goto 7, 3) := by decide +kernel
theorem d_Pile_typeAt_14 : decode Y_Pile_typeAt.2.1 14 = .ok (.aload_n 2, 1) := by decide +kernel
theorem d_Pile_typeAt_15 : decode Y_Pile_typeAt.2.1 15 = .ok (.getfield 25, 3) := by decide +kernel
theorem d_Pile_typeAt_18 : decode Y_Pile_typeAt.2.1 18 = .ok (.ireturn, 1) := by decide +kernel
theorem d_Pile_lay_0 : decode Y_Pile_lay.2.1 0 = .ok (.aload_n 0, 1) := by decide +kernel
theorem d_Pile_lay_1 : decode Y_Pile_lay.2.1 1 = .ok (.getfield 17, 3) := by decide +kernel
theorem d_Pile_lay_4 : decode Y_Pile_lay.2.1 4 = .ok (.bipush 40, 2) := by decide +kernel
theorem d_Pile_lay_6 : decode Y_Pile_lay.2.1 6 = .ok (.if_icmp .ge 23, 3) := by decide +kernel
theorem d_Pile_lay_9 : decode Y_Pile_lay.2.1 9 = .ok (.aload_n 0, 1) := by decide +kernel
theorem d_Pile_lay_10 : decode Y_Pile_lay.2.1 10 = .ok (.getfield 11, 3) := by decide +kernel
theorem d_Pile_lay_13 : decode Y_Pile_lay.2.1 13 = .ok (.aload_n 0, 1) := by decide +kernel
theorem d_Pile_lay_14 : decode Y_Pile_lay.2.1 14 = .ok (.getfield 17, 3) := by decide +kernel
theorem d_Pile_lay_17 : decode Y_Pile_lay.2.1 17 = .ok (.aload_n 1, 1) := by decide +kernel
theorem d_Pile_lay_18 : decode Y_Pile_lay.2.1 18 = .ok (.aastore, 1) := by decide +kernel
theorem d_Pile_lay_19 : decode Y_Pile_lay.2.1 19 = .ok (.aload_n 0, 1) := by decide +kernel
theorem d_Pile_lay_20 : decode Y_Pile_lay.2.1 20 = .ok (.dup, 1) := by decide +kernel
theorem d_Pile_lay_21 : decode Y_Pile_lay.2.1 21 = .ok (.getfield 17, 3) := by decide +kernel
theorem d_Pile_lay_24 : decode Y_Pile_lay.2.1 24 = .ok (.iconst 1, 1) := by decide +kernel
theorem d_Pile_lay_25 : decode Y_Pile_lay.2.1 25 = .ok (.iadd, 1) := by decide +kernel
theorem d_Pile_lay_26 : decode Y_Pile_lay.2.1 26 = .ok (.putfield 17, 3) := by decide +kernel
theorem d_Pile_lay_29 : decode Y_Pile_lay.2.1 29 = .ok (.aload_n 0, 1) := by decide +kernel
theorem d_Pile_lay_30 : decode Y_Pile_lay.2.1 30 = .ok (.getfield 17, 3) := by decide +kernel
theorem d_Pile_lay_33 : decode Y_Pile_lay.2.1 33 = .ok (.ireturn, 1) := by decide +kernel
theorem d_Pile_drop_0 : decode Y_Pile_drop.2.1 0 = .ok (.aload_n 0, 1) := by decide +kernel
theorem d_Pile_drop_1 : decode Y_Pile_drop.2.1 1 = .ok (.iconst 0, 1) := by decide +kernel
theorem d_Pile_drop_2 : decode Y_Pile_drop.2.1 2 = .ok (.aload_n 0, 1) := by decide +kernel
theorem d_Pile_drop_3 : decode Y_Pile_drop.2.1 3 = .ok (.getfield 17, 3) := by decide +kernel
theorem d_Pile_drop_6 : decode Y_Pile_drop.2.1 6 = .ok (.iload_n 1, 1) := by decide +kernel
theorem d_Pile_drop_7 : decode Y_Pile_drop.2.1 7 = .ok (.isub, 1) := by decide +kernel
theorem d_Pile_drop_8 : decode Y_Pile_drop.2.1 8 = .ok (.invokestatic 28, 3) := by decide +kernel
theorem d_Pile_drop_11 : decode Y_Pile_drop.2.1 11 = .ok (.putfield 17, 3) := by decide +kernel
theorem d_Pile_drop_14 : decode Y_Pile_drop.2.1 14 = .ok (.return_, 1) := by decide +kernel
theorem d_Math_max_0 : decode Y_Math_max.2.1 0 = .ok (.iload_n 0, 1) := by decide +kernel
theorem d_Math_max_1 : decode Y_Math_max.2.1 1 = .ok (.iload_n 1, 1) := by decide +kernel
theorem d_Math_max_2 : decode Y_Math_max.2.1 2 = .ok (.if_icmp .lt 7, 3) := by decide +kernel
theorem d_Math_max_5 : decode Y_Math_max.2.1 5 = .ok (.iload_n 0, 1) := by decide +kernel
theorem d_Math_max_6 : decode Y_Math_max.2.1 6 = .ok (.goto 4, 3) := by decide +kernel
theorem d_Math_max_9 : decode Y_Math_max.2.1 9 = .ok (.iload_n 1, 1) := by decide +kernel
theorem d_Math_max_10 : decode Y_Math_max.2.1 10 = .ok (.ireturn, 1) := by decide +kernel
theorem d_Math_min_0 : decode Y_Math_min.2.1 0 = .ok (.iload_n 0, 1) := by decide +kernel
theorem d_Math_min_1 : decode Y_Math_min.2.1 1 = .ok (.iload_n 1, 1) := by decide +kernel
theorem d_Math_min_2 : decode Y_Math_min.2.1 2 = .ok (.if_icmp .gt 7, 3) := by decide +kernel
theorem d_Math_min_5 : decode Y_Math_min.2.1 5 = .ok (.iload_n 0, 1) := by decide +kernel
theorem d_Math_min_6 : decode Y_Math_min.2.1 6 = .ok (.goto 4, 3) := by decide +kernel
theorem d_Math_min_9 : decode Y_Math_min.2.1 9 = .ok (.iload_n 1, 1) := by decide +kernel
theorem d_Math_min_10 : decode Y_Math_min.2.1 10 = .ok (.ireturn, 1) := by decide +kernel
theorem d_Cases_size_0 : decode Y_Cases_size.2.1 0 = .ok (.aload_n 0, 1) := by decide +kernel
theorem d_Cases_size_1 : decode Y_Cases_size.2.1 1 = .ok (.getfield 21, 3) := by decide +kernel
theorem d_Cases_size_4 : decode Y_Cases_size.2.1 4 = .ok (.ireturn, 1) := by decide +kernel
theorem d_Cases_forget_0 : decode Y_Cases_forget.2.1 0 = .ok (.aload_n 0, 1) := by decide +kernel
theorem d_Cases_forget_1 : decode Y_Cases_forget.2.1 1 = .ok (.iconst 0, 1) := by decide +kernel
theorem d_Cases_forget_2 : decode Y_Cases_forget.2.1 2 = .ok (.putfield 21, 3) := by decide +kernel
theorem d_Cases_forget_5 : decode Y_Cases_forget.2.1 5 = .ok (.return_, 1) := by decide +kernel
theorem d_Cases_areOf_0 : decode Y_Cases_areOf.2.1 0 = .ok (.aload_n 0, 1) := by decide +kernel
theorem d_Cases_areOf_1 : decode Y_Cases_areOf.2.1 1 = .ok (.getfield 21, 3) := by decide +kernel
theorem d_Cases_areOf_4 : decode Y_Cases_areOf.2.1 4 = .ok (.ifCond .le 20, 3) := by decide +kernel
theorem d_Cases_areOf_7 : decode Y_Cases_areOf.2.1 7 = .ok (.aload_n 0, 1) := by decide +kernel
theorem d_Cases_areOf_8 : decode Y_Cases_areOf.2.1 8 = .ok (.getfield 11, 3) := by decide +kernel
theorem d_Cases_areOf_11 : decode Y_Cases_areOf.2.1 11 = .ok (.iconst 0, 1) := by decide +kernel
theorem d_Cases_areOf_12 : decode Y_Cases_areOf.2.1 12 = .ok (.aaload, 1) := by decide +kernel
theorem d_Cases_areOf_13 : decode Y_Cases_areOf.2.1 13 = .ok (.getfield 25, 3) := by decide +kernel
theorem d_Cases_areOf_16 : decode Y_Cases_areOf.2.1 16 = .ok (.iload_n 1, 1) := by decide +kernel
theorem d_Cases_areOf_17 : decode Y_Cases_areOf.2.1 17 = .ok (.if_icmp .ne 7, 3) := by decide +kernel
theorem d_Cases_areOf_20 : decode Y_Cases_areOf.2.1 20 = .ok (.iconst 1, 1) := by decide +kernel
theorem d_Cases_areOf_21 : decode Y_Cases_areOf.2.1 21 = .ok (.goto 4, 3) := by decide +kernel
theorem d_Cases_areOf_24 : decode Y_Cases_areOf.2.1 24 = .ok (.iconst 0, 1) := by decide +kernel
theorem d_Cases_areOf_25 : decode Y_Cases_areOf.2.1 25 = .ok (.ireturn, 1) := by decide +kernel
theorem d_Cases_accepts_0 : decode Y_Cases_accepts.2.1 0 = .ok (.aload_n 0, 1) := by decide +kernel
theorem d_Cases_accepts_1 : decode Y_Cases_accepts.2.1 1 = .ok (.getfield 21, 3) := by decide +kernel
theorem d_Cases_accepts_4 : decode Y_Cases_accepts.2.1 4 = .ok (.ifCond .eq 23, 3) := by decide +kernel
theorem d_Cases_accepts_7 : decode Y_Cases_accepts.2.1 7 = .ok (.aload_n 0, 1) := by decide +kernel
theorem d_Cases_accepts_8 : decode Y_Cases_accepts.2.1 8 = .ok (.getfield 21, 3) := by decide +kernel
theorem d_Cases_accepts_11 : decode Y_Cases_accepts.2.1 11 = .ok (.bipush 20, 2) := by decide +kernel
theorem d_Cases_accepts_13 : decode Y_Cases_accepts.2.1 13 = .ok (.if_icmp .ge 18, 3) := by decide +kernel
theorem d_Cases_accepts_16 : decode Y_Cases_accepts.2.1 16 = .ok (.aload_n 0, 1) := by decide +kernel
theorem d_Cases_accepts_17 : decode Y_Cases_accepts.2.1 17 = .ok (.aload_n 1, 1) := by decide +kernel
theorem d_Cases_accepts_18 : decode Y_Cases_accepts.2.1 18 = .ok (.getfield 25, 3) := by decide +kernel
theorem d_Cases_accepts_21 : decode Y_Cases_accepts.2.1 21 = .ok (.invokevirtual 28, 3) := by decide +kernel
theorem d_Cases_accepts_24 : decode Y_Cases_accepts.2.1 24 = .ok (.ifCond .eq 7, 3) := by decide +kernel
theorem d_Cases_accepts_27 : decode Y_Cases_accepts.2.1 27 = .ok (.iconst 1, 1) := by decide +kernel
theorem d_Cases_accepts_28 : decode Y_Cases_accepts.2.1 28 = .ok (.goto 4, 3) := by decide +kernel
theorem d_Cases_accepts_31 : decode Y_Cases_accepts.2.1 31 = .ok (.iconst 0, 1) := by decide +kernel
theorem d_Cases_accepts_32 : decode Y_Cases_accepts.2.1 32 = .ok (.ireturn, 1) := by decide +kernel
theorem d_Cases_patternOf_0 : decode Y_Cases_patternOf.2.1 0 = .ok (.aload_n 0, 1) := by decide +kernel
theorem d_Cases_patternOf_1 : decode Y_Cases_patternOf.2.1 1 = .ok (.getfield 11, 3) := by decide +kernel
theorem d_Cases_patternOf_4 : decode Y_Cases_patternOf.2.1 4 = .ok (.iload_n 1, 1) := by decide +kernel
theorem d_Cases_patternOf_5 : decode Y_Cases_patternOf.2.1 5 = .ok (.aaload, 1) := by decide +kernel
theorem d_Cases_patternOf_6 : decode Y_Cases_patternOf.2.1 6 = .ok (.areturn, 1) := by decide +kernel
theorem d_Cases_isGuarded_0 : decode Y_Cases_isGuarded.2.1 0 = .ok (.aload_n 0, 1) := by decide +kernel
theorem d_Cases_isGuarded_1 : decode Y_Cases_isGuarded.2.1 1 = .ok (.getfield 17, 3) := by decide +kernel
theorem d_Cases_isGuarded_4 : decode Y_Cases_isGuarded.2.1 4 = .ok (.iload_n 1, 1) := by decide +kernel
theorem d_Cases_isGuarded_5 : decode Y_Cases_isGuarded.2.1 5 = .ok (.baload, 1) := by decide +kernel
theorem d_Cases_isGuarded_6 : decode Y_Cases_isGuarded.2.1 6 = .ok (.ireturn, 1) := by decide +kernel
theorem d_Passage_questionAt_0 : decode Y_Passage_questionAt.2.1 0 = .ok (.iload_n 1, 1) := by decide +kernel
theorem d_Passage_questionAt_1 : decode Y_Passage_questionAt.2.1 1 = .ok (.ifCond .lt 20, 3) := by decide +kernel
theorem d_Passage_questionAt_4 : decode Y_Passage_questionAt.2.1 4 = .ok (.iload_n 1, 1) := by decide +kernel
theorem d_Passage_questionAt_5 : decode Y_Passage_questionAt.2.1 5 = .ok (.aload_n 0, 1) := by decide +kernel
theorem d_Passage_questionAt_6 : decode Y_Passage_questionAt.2.1 6 = .ok (.getfield 28, 3) := by decide +kernel
theorem d_Passage_questionAt_9 : decode Y_Passage_questionAt.2.1 9 = .ok (.if_icmp .ge 12, 3) := by decide +kernel
theorem d_Passage_questionAt_12 : decode Y_Passage_questionAt.2.1 12 = .ok (.aload_n 0, 1) := by decide +kernel
theorem d_Passage_questionAt_13 : decode Y_Passage_questionAt.2.1 13 = .ok (.getfield 9, 3) := by decide +kernel
theorem d_Passage_questionAt_16 : decode Y_Passage_questionAt.2.1 16 = .ok (.iload_n 1, 1) := by decide +kernel
theorem d_Passage_questionAt_17 : decode Y_Passage_questionAt.2.1 17 = .ok (.iaload, 1) := by decide +kernel
theorem d_Passage_questionAt_18 : decode Y_Passage_questionAt.2.1 18 = .ok (.goto 4, 3) := by decide +kernel
theorem d_Passage_questionAt_21 : decode Y_Passage_questionAt.2.1 21 = .ok (.iconst (-1), 1) := by decide +kernel
theorem d_Passage_questionAt_22 : decode Y_Passage_questionAt.2.1 22 = .ok (.ireturn, 1) := by decide +kernel
theorem d_Mill_pileOf_0 : decode Y_Mill_pileOf.2.1 0 = .ok (.iload_n 1, 1) := by decide +kernel
theorem d_Mill_pileOf_1 : decode Y_Mill_pileOf.2.1 1 = .ok (.ifCond .eq 10, 3) := by decide +kernel
theorem d_Mill_pileOf_4 : decode Y_Mill_pileOf.2.1 4 = .ok (.aload_n 0, 1) := by decide +kernel
theorem d_Mill_pileOf_5 : decode Y_Mill_pileOf.2.1 5 = .ok (.getfield 30, 3) := by decide +kernel
theorem d_Mill_pileOf_8 : decode Y_Mill_pileOf.2.1 8 = .ok (.goto 7, 3) := by decide +kernel
theorem d_Mill_pileOf_11 : decode Y_Mill_pileOf.2.1 11 = .ok (.aload_n 0, 1) := by decide +kernel
theorem d_Mill_pileOf_12 : decode Y_Mill_pileOf.2.1 12 = .ok (.getfield 26, 3) := by decide +kernel
theorem d_Mill_pileOf_15 : decode Y_Mill_pileOf.2.1 15 = .ok (.areturn, 1) := by decide +kernel
theorem d_Mill_isName_0 : decode Y_Mill_isName.2.1 0 = .ok (.iload_n 0, 1) := by decide +kernel
theorem d_Mill_isName_1 : decode Y_Mill_isName.2.1 1 = .ok (.ifCond .lt 13, 3) := by decide +kernel
theorem d_Mill_isName_4 : decode Y_Mill_isName.2.1 4 = .ok (.iload_n 0, 1) := by decide +kernel
theorem d_Mill_isName_5 : decode Y_Mill_isName.2.1 5 = .ok (.bipush 8, 2) := by decide +kernel
theorem d_Mill_isName_7 : decode Y_Mill_isName.2.1 7 = .ok (.if_icmp .ge 7, 3) := by decide +kernel
theorem d_Mill_isName_10 : decode Y_Mill_isName.2.1 10 = .ok (.iconst 1, 1) := by decide +kernel
theorem d_Mill_isName_11 : decode Y_Mill_isName.2.1 11 = .ok (.goto 4, 3) := by decide +kernel
theorem d_Mill_isName_14 : decode Y_Mill_isName.2.1 14 = .ok (.iconst 0, 1) := by decide +kernel
theorem d_Mill_isName_15 : decode Y_Mill_isName.2.1 15 = .ok (.ireturn, 1) := by decide +kernel
theorem d_Mill_forgetTree_0 : decode Y_Mill_forgetTree.2.1 0 = .ok (.aload_n 0, 1) := by decide +kernel
theorem d_Mill_forgetTree_1 : decode Y_Mill_forgetTree.2.1 1 = .ok (.iconst 0, 1) := by decide +kernel
theorem d_Mill_forgetTree_2 : decode Y_Mill_forgetTree.2.1 2 = .ok (.putfield 157, 3) := by decide +kernel
theorem d_Mill_forgetTree_5 : decode Y_Mill_forgetTree.2.1 5 = .ok (.aload_n 0, 1) := by decide +kernel
theorem d_Mill_forgetTree_6 : decode Y_Mill_forgetTree.2.1 6 = .ok (.iconst 0, 1) := by decide +kernel
theorem d_Mill_forgetTree_7 : decode Y_Mill_forgetTree.2.1 7 = .ok (.putfield 160, 3) := by decide +kernel
theorem d_Mill_forgetTree_10 : decode Y_Mill_forgetTree.2.1 10 = .ok (.return_, 1) := by decide +kernel
theorem d_Rows_size_0 : decode Y_Rows_size.2.1 0 = .ok (.aload_n 0, 1) := by decide +kernel
theorem d_Rows_size_1 : decode Y_Rows_size.2.1 1 = .ok (.getfield 18, 3) := by decide +kernel
theorem d_Rows_size_4 : decode Y_Rows_size.2.1 4 = .ok (.ireturn, 1) := by decide +kernel
theorem d_Places_size_0 : decode Y_Places_size.2.1 0 = .ok (.aload_n 0, 1) := by decide +kernel
theorem d_Places_size_1 : decode Y_Places_size.2.1 1 = .ok (.getfield 18, 3) := by decide +kernel
theorem d_Places_size_4 : decode Y_Places_size.2.1 4 = .ok (.ireturn, 1) := by decide +kernel
theorem d_Tree_size_0 : decode Y_Tree_size.2.1 0 = .ok (.aload_n 0, 1) := by decide +kernel
theorem d_Tree_size_1 : decode Y_Tree_size.2.1 1 = .ok (.getfield 47, 3) := by decide +kernel
theorem d_Tree_size_4 : decode Y_Tree_size.2.1 4 = .ok (.ireturn, 1) := by decide +kernel
theorem d_Row_hasWishes_0 : decode Y_Row_hasWishes.2.1 0 = .ok (.aload_n 0, 1) := by decide +kernel
theorem d_Row_hasWishes_1 : decode Y_Row_hasWishes.2.1 1 = .ok (.getfield 34, 3) := by decide +kernel
theorem d_Row_hasWishes_4 : decode Y_Row_hasWishes.2.1 4 = .ok (.ifCond .le 7, 3) := by decide +kernel
theorem d_Row_hasWishes_7 : decode Y_Row_hasWishes.2.1 7 = .ok (.iconst 1, 1) := by decide +kernel
theorem d_Row_hasWishes_8 : decode Y_Row_hasWishes.2.1 8 = .ok (.goto 4, 3) := by decide +kernel
theorem d_Row_hasWishes_11 : decode Y_Row_hasWishes.2.1 11 = .ok (.iconst 0, 1) := by decide +kernel
theorem d_Row_hasWishes_12 : decode Y_Row_hasWishes.2.1 12 = .ok (.ireturn, 1) := by decide +kernel
theorem d_ArrayList_size_0 : decode Y_ArrayList_size.2.1 0 = .ok (.aload_n 0, 1) := by decide +kernel
theorem d_ArrayList_size_1 : decode Y_ArrayList_size.2.1 1 = .ok (.getfield 48, 3) := by decide +kernel
theorem d_ArrayList_size_4 : decode Y_ArrayList_size.2.1 4 = .ok (.ireturn, 1) := by decide +kernel
section SM
variable {E : gE} {d : Nat} {G : gS} {a t : Nat} {f : Nat → Option Nat} {h : Nat}
set_option maxHeartbeats 4000000 in
set_option maxRecDepth 100000 in
theorem m_Math_max (x y : Int32) : GM E Y_Math_max d [.int x, .int y] G (rIs (some (.int (if x < y then y else x))) G) := by
  refine g_entryF (by decide +kernel) (by simp [Value.category]) (Nat.le_of_ble_eq_true rfl) ?_
  refine g_iload_n d_Math_max_0 rfl ?_
  refine g_iload_n d_Math_max_1 rfl ?_
  refine g_icmp_lt (tgt := 9) d_Math_max_2 (by decide) (fun c_2 => ?_) (fun c_2 => ?_)
  · refine g_iload_n d_Math_max_9 rfl ?_
    refine g_iret rfl d_Math_max_10 ?_
    first | (simp only [rIs, b32, c_2, not_true_eq_false, not_false_eq_true, and_true, true_and, and_false, false_and, and_self, if_true, if_false, ite_true, ite_false]; done) | (simp [rIs, b32, c_2]; done) | (simp_all [rIs, b32]; done)
  · refine g_iload_n d_Math_max_5 rfl ?_
    refine g_goto (tgt := 10) d_Math_max_6 (by decide) ?_
    refine g_iret rfl d_Math_max_10 ?_
    first | (simp only [rIs, b32, c_2, not_true_eq_false, not_false_eq_true, and_true, true_and, and_false, false_and, and_self, if_true, if_false, ite_true, ite_false]; done) | (simp [rIs, b32, c_2]; done) | (simp_all [rIs, b32]; done)
set_option maxHeartbeats 4000000 in
set_option maxRecDepth 100000 in
theorem m_Math_min (x y : Int32) : GM E Y_Math_min d [.int x, .int y] G (rIs (some (.int (if y < x then y else x))) G) := by
  refine g_entryF (by decide +kernel) (by simp [Value.category]) (Nat.le_of_ble_eq_true rfl) ?_
  refine g_iload_n d_Math_min_0 rfl ?_
  refine g_iload_n d_Math_min_1 rfl ?_
  refine g_icmp_gt (tgt := 9) d_Math_min_2 (by decide) (fun c_2 => ?_) (fun c_2 => ?_)
  · refine g_iload_n d_Math_min_9 rfl ?_
    refine g_iret rfl d_Math_min_10 ?_
    first | (simp only [rIs, b32, c_2, not_true_eq_false, not_false_eq_true, and_true, true_and, and_false, false_and, and_self, if_true, if_false, ite_true, ite_false]; done) | (simp [rIs, b32, c_2]; done) | (simp_all [rIs, b32]; done)
  · refine g_iload_n d_Math_min_5 rfl ?_
    refine g_goto (tgt := 10) d_Math_min_6 (by decide) ?_
    refine g_iret rfl d_Math_min_10 ?_
    first | (simp only [rIs, b32, c_2, not_true_eq_false, not_false_eq_true, and_true, true_and, and_false, false_and, and_self, if_true, if_false, ite_true, ite_false]; done) | (simp [rIs, b32, c_2]; done) | (simp_all [rIs, b32]; done)
set_option maxHeartbeats 4000000 in
set_option maxRecDepth 100000 in
theorem m_Pile_height (ha : G.1 a = some (.inr (3, [.ref t, .int (nI h)]))) : GM E Y_Pile_height d [.ref a] G (rIs (some (.int (nI h))) G) := by
  refine g_entry (by decide) (by simp [Value.category]) (Nat.le_of_ble_eq_true rfl) ?_
  refine g_aload_n d_Pile_height_0 rfl ?_
  refine g_getf kc_Pile fl_Pile_17 (by decide) ha rfl d_Pile_height_1 ?_
  refine g_iret rfl d_Pile_height_4 ?_
  first | (simp only [rIs, b32, not_true_eq_false, not_false_eq_true, and_true, true_and, and_false, false_and, and_self, if_true, if_false, ite_true, ite_false]; done) | (simp [rIs, b32]; done) | (simp_all [rIs, b32]; done)
set_option maxHeartbeats 4000000 in
set_option maxRecDepth 100000 in
theorem m_Pile_isFull (ha : G.1 a = some (.inr (3, [.ref t, .int (nI h)]))) : GM E Y_Pile_isFull d [.ref a] G (rIs (some (.int (b32 (¬ nI h < 40)))) G) := by
  refine g_entry (by decide) (by simp [Value.category]) (Nat.le_of_ble_eq_true rfl) ?_
  refine g_aload_n d_Pile_isFull_0 rfl ?_
  refine g_getf kc_Pile fl_Pile_17 (by decide) ha rfl d_Pile_isFull_1 ?_
  refine g_bipush (v := 40) d_Pile_isFull_4 (by decide) ?_
  refine g_icmp_lt (tgt := 13) d_Pile_isFull_6 (by decide) (fun c_6 => ?_) (fun c_6 => ?_)
  · refine g_iconst (v := 0) d_Pile_isFull_13 (by decide) ?_
    refine g_zret rfl rfl d_Pile_isFull_14 ?_
    first | (simp only [rIs, b32, c_6, not_true_eq_false, not_false_eq_true, and_true, true_and, and_false, false_and, and_self, if_true, if_false, ite_true, ite_false]; done) | (simp [rIs, b32, c_6]; done) | (simp_all [rIs, b32]; done)
  · refine g_iconst (v := 1) d_Pile_isFull_9 (by decide) ?_
    refine g_goto (tgt := 14) d_Pile_isFull_10 (by decide) ?_
    refine g_zret rfl rfl d_Pile_isFull_14 ?_
    first | (simp only [rIs, b32, c_6, not_true_eq_false, not_false_eq_true, and_true, true_and, and_false, false_and, and_self, if_true, if_false, ite_true, ite_false]; done) | (simp [rIs, b32, c_6]; done) | (simp_all [rIs, b32]; done)
/-- what lies so deep on a pile -/
def pTop (f : Nat → Option Nat) (h : Nat) (x : Int32) : Option Nat := if ¬ x < 0 ∧ ¬ nI h ≤ x then f (h - 1 - tn x) else none
set_option maxHeartbeats 4000000 in
set_option maxRecDepth 100000 in
theorem m_Pile_fromTop (ha : G.1 a = some (.inr (3, [.ref t, .int (nI h)]))) (ht : G.1 t = some (gAT E 40 f)) (hh : h ≤ 40) (x : Int32) : GM E Y_Pile_fromTop d [.ref a, .int x] G (rIs (some (va_rf (pTop f h x))) G) := by
  refine g_entry (by decide) (by simp [Value.category]) (Nat.le_of_ble_eq_true rfl) ?_
  refine g_iload_n d_Pile_fromTop_0 rfl ?_
  refine g_if_lt (tgt := 28) d_Pile_fromTop_1 (by decide) (fun c_1 => ?_) (fun c_1 => ?_)
  · refine g_null d_Pile_fromTop_28 ?_
    refine g_aret rfl (by first | exact Or.inl ⟨_, rfl⟩ | exact Or.inr ⟨_, rfl⟩) (by first | exact Or.inl rfl | exact Or.inr ⟨_, rfl⟩) d_Pile_fromTop_29 ?_
    simp only [rIs, pTop, va_rf, c_1, not_true_eq_false, not_false_eq_true, and_true, true_and, and_false, false_and, and_self, if_true, if_false, ite_true, ite_false]
  · refine g_iload_n d_Pile_fromTop_4 rfl ?_
    refine g_aload_n d_Pile_fromTop_5 rfl ?_
    refine g_getf kc_Pile fl_Pile_17 (by decide) ha rfl d_Pile_fromTop_6 ?_
    refine g_icmp_ge (tgt := 28) d_Pile_fromTop_9 (by decide) (fun c_9 => ?_) (fun c_9 => ?_)
    · refine g_null d_Pile_fromTop_28 ?_
      refine g_aret rfl (by first | exact Or.inl ⟨_, rfl⟩ | exact Or.inr ⟨_, rfl⟩) (by first | exact Or.inl rfl | exact Or.inr ⟨_, rfl⟩) d_Pile_fromTop_29 ?_
      simp only [rIs, pTop, va_rf, c_1, c_9, not_true_eq_false, not_false_eq_true, and_true, true_and, and_false, false_and, and_self, if_true, if_false, ite_true, ite_false]
    · refine g_aload_n d_Pile_fromTop_12 rfl ?_
      refine g_getf kc_Pile fl_Pile_11 (by decide) ha rfl d_Pile_fromTop_13 ?_
      refine g_aload_n d_Pile_fromTop_16 rfl ?_
      refine g_getf kc_Pile fl_Pile_17 (by decide) ha rfl d_Pile_fromTop_17 ?_
      refine g_iconst (v := 1) d_Pile_fromTop_20 (by decide) ?_
      refine g_isub d_Pile_fromTop_21 ?_
      refine g_iload_n d_Pile_fromTop_22 rfl ?_
      refine g_isub d_Pile_fromTop_23 ?_
      cases hq_24 : f (h - 1 - tn x) with
      | none =>
        refine g_taldN ht (sub_hi (sub_hi (nI_hi (by omega)) i1 (by have := tn_bd c_1 c_9 (by omega); omega)) (tn_hi c_1) (by have := tn_bd c_1 c_9 (by omega); omega)) (by have := tn_bd c_1 c_9 (by omega); omega) hq_24 d_Pile_fromTop_24 ?_
        refine g_goto (tgt := 29) d_Pile_fromTop_25 (by decide) ?_
        refine g_aret rfl (by first | exact Or.inl ⟨_, rfl⟩ | exact Or.inr ⟨_, rfl⟩) (by first | exact Or.inl rfl | exact Or.inr ⟨_, rfl⟩) d_Pile_fromTop_29 ?_
        simp only [rIs, pTop, va_rf, c_1, c_9, hq_24, not_true_eq_false, not_false_eq_true, and_true, true_and, and_false, false_and, and_self, if_true, if_false, ite_true, ite_false]
      | some q_24 =>
        refine g_taldS ht (sub_hi (sub_hi (nI_hi (by omega)) i1 (by have := tn_bd c_1 c_9 (by omega); omega)) (tn_hi c_1) (by have := tn_bd c_1 c_9 (by omega); omega)) (by have := tn_bd c_1 c_9 (by omega); omega) hq_24 d_Pile_fromTop_24 ?_
        refine g_goto (tgt := 29) d_Pile_fromTop_25 (by decide) ?_
        refine g_aret rfl (by first | exact Or.inl ⟨_, rfl⟩ | exact Or.inr ⟨_, rfl⟩) (by first | exact Or.inl rfl | exact Or.inr ⟨_, rfl⟩) d_Pile_fromTop_29 ?_
        simp only [rIs, pTop, va_rf, c_1, c_9, hq_24, not_true_eq_false, not_false_eq_true, and_true, true_and, and_false, false_and, and_self, if_true, if_false, ite_true, ite_false]
set_option maxHeartbeats 4000000 in
set_option maxRecDepth 100000 in
theorem m_Pile_drop (ha : G.1 a = some (.inr (3, [.ref t, .int (nI h)]))) (x : Int32) : GM E Y_Pile_drop (d + 1) [.ref a, .int x] G (rIs none (gUp G a (.inr (3, [.ref t, .int (if 0 < nI h - x then nI h - x else 0)])))) := by
  refine g_entry (by decide) (by simp [Value.category]) (Nat.le_of_ble_eq_true rfl) ?_
  refine g_aload_n d_Pile_drop_0 rfl ?_
  refine g_iconst (v := 0) d_Pile_drop_1 (by decide) ?_
  refine g_aload_n d_Pile_drop_2 rfl ?_
  refine g_getf kc_Pile fl_Pile_17 (by decide) ha rfl d_Pile_drop_3 ?_
  refine g_iload_n d_Pile_drop_6 rfl ?_
  refine g_isub d_Pile_drop_7 ?_
  refine c_Sr (as := [.int (0), .int ((nI h) - (x))]) ks_Math_max ml_Pile_28 (m_Math_max 0 (nI h - x)) rfl (Nat.le_of_ble_eq_true rfl) rfl d_Pile_drop_8 rfl ?_
  refine g_putf kc_Pile fl_Pile_17 (by decide) ha rfl rfl rfl (Nat.le_of_ble_eq_true rfl) rfl d_Pile_drop_11 ?_
  have ha_u1 := gUp_at (x := (.inr (3, [.ref (t), .int (if 0 < nI h - x then nI h - x else 0)]))) ha
  refine g_vret rfl d_Pile_drop_14 ?_
  exact ⟨rfl, rfl⟩
variable {g : Nat} {fg : Nat → Int32}
set_option maxHeartbeats 4000000 in
set_option maxRecDepth 100000 in
theorem m_Cases_size (ha : G.1 a = some (.inr (1, [.ref t, .ref g, .int (nI h)]))) : GM E Y_Cases_size d [.ref a] G (rIs (some (.int (nI h))) G) := by
  refine g_entry (by decide) (by simp [Value.category]) (Nat.le_of_ble_eq_true rfl) ?_
  refine g_aload_n d_Cases_size_0 rfl ?_
  refine g_getf kc_Cases fl_Cases_21 (by decide) ha rfl d_Cases_size_1 ?_
  refine g_iret rfl d_Cases_size_4 ?_
  first | (simp only [rIs, b32, not_true_eq_false, not_false_eq_true, and_true, true_and, and_false, false_and, and_self, if_true, if_false, ite_true, ite_false]; done) | (simp [rIs, b32]; done) | (simp_all [rIs, b32]; done)
set_option maxHeartbeats 4000000 in
set_option maxRecDepth 100000 in
theorem m_Cases_forget (ha : G.1 a = some (.inr (1, [.ref t, .ref g, .int (nI h)]))) : GM E Y_Cases_forget d [.ref a] G (rIs none (gUp G a (.inr (1, [.ref t, .ref g, .int 0])))) := by
  refine g_entry (by decide) (by simp [Value.category]) (Nat.le_of_ble_eq_true rfl) ?_
  refine g_aload_n d_Cases_forget_0 rfl ?_
  refine g_iconst (v := 0) d_Cases_forget_1 (by decide) ?_
  refine g_putf kc_Cases fl_Cases_21 (by decide) ha rfl rfl rfl (Nat.le_of_ble_eq_true rfl) rfl d_Cases_forget_2 ?_
  have ha_u2 := gUp_at (x := (.inr (1, [.ref (t), .ref (g), .int (0)]))) ha
  refine g_vret rfl d_Cases_forget_5 ?_
  exact ⟨rfl, rfl⟩
set_option maxHeartbeats 4000000 in
set_option maxRecDepth 100000 in
theorem m_Mill_isName (x : Int32) : GM E Y_Mill_isName d [.int x] G (rIs (some (.int (b32 (¬ x < 0 ∧ ¬ 8 ≤ x)))) G) := by
  refine g_entry (by decide) (by simp [Value.category]) (Nat.le_of_ble_eq_true rfl) ?_
  refine g_iload_n d_Mill_isName_0 rfl ?_
  refine g_if_lt (tgt := 14) d_Mill_isName_1 (by decide) (fun c_1 => ?_) (fun c_1 => ?_)
  · refine g_iconst (v := 0) d_Mill_isName_14 (by decide) ?_
    refine g_zret rfl rfl d_Mill_isName_15 ?_
    first | (simp only [rIs, b32, c_1, not_true_eq_false, not_false_eq_true, and_true, true_and, and_false, false_and, and_self, if_true, if_false, ite_true, ite_false]; done) | (simp [rIs, b32, c_1]; done) | (simp_all [rIs, b32]; done)
  · refine g_iload_n d_Mill_isName_4 rfl ?_
    refine g_bipush (v := 8) d_Mill_isName_5 (by decide) ?_
    refine g_icmp_ge (tgt := 14) d_Mill_isName_7 (by decide) (fun c_7 => ?_) (fun c_7 => ?_)
    · refine g_iconst (v := 0) d_Mill_isName_14 (by decide) ?_
      refine g_zret rfl rfl d_Mill_isName_15 ?_
      first | (simp only [rIs, b32, c_1, c_7, not_true_eq_false, not_false_eq_true, and_true, true_and, and_false, false_and, and_self, if_true, if_false, ite_true, ite_false]; done) | (simp [rIs, b32, c_1, c_7]; done) | (simp_all [rIs, b32]; done)
    · refine g_iconst (v := 1) d_Mill_isName_10 (by decide) ?_
      refine g_goto (tgt := 15) d_Mill_isName_11 (by decide) ?_
      refine g_zret rfl rfl d_Mill_isName_15 ?_
      first | (simp only [rIs, b32, c_1, c_7, not_true_eq_false, not_false_eq_true, and_true, true_and, and_false, false_and, and_self, if_true, if_false, ite_true, ite_false]; done) | (simp [rIs, b32, c_1, c_7]; done) | (simp_all [rIs, b32]; done)
variable {aT aP aV aC aR aL : Nat} {mm mb mg : Int32}
set_option maxHeartbeats 4000000 in
set_option maxRecDepth 100000 in
theorem m_Mill_pileOf (ha : G.1 a = some (.inr (12, [.ref aT, .ref aP, .ref aV, .ref aC, .ref aR, .ref aL, .int mm, .int mb, .int mg]))) (v : Int32) : GM E Y_Mill_pileOf d [.ref a, .int v] G (rIs (some (.ref (if v = 0 then aP else aV))) G) := by
  refine g_entry (by decide) (by simp [Value.category]) (Nat.le_of_ble_eq_true rfl) ?_
  refine g_iload_n d_Mill_pileOf_0 rfl ?_
  refine g_if_eq (tgt := 11) d_Mill_pileOf_1 (by decide) (fun c_1 => ?_) (fun c_1 => ?_)
  · refine g_aload_n d_Mill_pileOf_11 rfl ?_
    refine g_getf kc_Mill fl_Mill_26 (by decide) ha rfl d_Mill_pileOf_12 ?_
    refine g_aret rfl (by first | exact Or.inl ⟨_, rfl⟩ | exact Or.inr ⟨_, rfl⟩) (by first | exact Or.inl rfl | exact Or.inr ⟨_, rfl⟩) d_Mill_pileOf_15 ?_
    first | (simp only [rIs, b32, c_1, not_true_eq_false, not_false_eq_true, and_true, true_and, and_false, false_and, and_self, if_true, if_false, ite_true, ite_false]; done) | (simp [rIs, b32, c_1]; done) | (simp_all [rIs, b32]; done)
  · refine g_aload_n d_Mill_pileOf_4 rfl ?_
    refine g_getf kc_Mill fl_Mill_30 (by decide) ha rfl d_Mill_pileOf_5 ?_
    refine g_goto (tgt := 15) d_Mill_pileOf_8 (by decide) ?_
    refine g_aret rfl (by first | exact Or.inl ⟨_, rfl⟩ | exact Or.inr ⟨_, rfl⟩) (by first | exact Or.inl rfl | exact Or.inr ⟨_, rfl⟩) d_Mill_pileOf_15 ?_
    first | (simp only [rIs, b32, c_1, not_true_eq_false, not_false_eq_true, and_true, true_and, and_false, false_and, and_self, if_true, if_false, ite_true, ite_false]; done) | (simp [rIs, b32, c_1]; done) | (simp_all [rIs, b32]; done)
set_option maxHeartbeats 4000000 in
set_option maxRecDepth 100000 in
theorem m_Mill_forgetTree (ha : G.1 a = some (.inr (12, [.ref aT, .ref aP, .ref aV, .ref aC, .ref aR, .ref aL, .int mm, .int mb, .int mg]))) : GM E Y_Mill_forgetTree d [.ref a] G (rIs none (gUp G a (.inr (12, [.ref aT, .ref aP, .ref aV, .ref aC, .ref aR, .ref aL, .int mm, .int 0, .int 0])))) := by
  refine g_entry (by decide) (by simp [Value.category]) (Nat.le_of_ble_eq_true rfl) ?_
  refine g_aload_n d_Mill_forgetTree_0 rfl ?_
  refine g_iconst (v := 0) d_Mill_forgetTree_1 (by decide) ?_
  refine g_putf kc_Mill fl_Mill_157 (by decide) ha rfl rfl rfl (Nat.le_of_ble_eq_true rfl) rfl d_Mill_forgetTree_2 ?_
  have ha_u3 := gUp_at (x := (.inr (12, [.ref (aT), .ref (aP), .ref (aV), .ref (aC), .ref (aR), .ref (aL), .int (mm), .int (0), .int (mg)]))) ha
  refine g_aload_n d_Mill_forgetTree_5 rfl ?_
  refine g_iconst (v := 0) d_Mill_forgetTree_6 (by decide) ?_
  refine g_putf kc_Mill fl_Mill_160 (by decide) ha_u3 rfl rfl rfl (Nat.le_of_ble_eq_true rfl) rfl d_Mill_forgetTree_7 ?_
  have ha_u4 := gUp_at (x := (.inr (12, [.ref (aT), .ref (aP), .ref (aV), .ref (aC), .ref (aR), .ref (aL), .int (mm), .int (0), .int (0)]))) ha_u3
  refine g_vret rfl d_Mill_forgetTree_10 ?_
  simp [rIs, gUp, bx_uu]
end SM

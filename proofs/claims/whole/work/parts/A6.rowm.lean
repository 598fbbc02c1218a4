/-! Row's methods -/
theorem d_Row_begin_0 : decode Y_Row_begin.2.1 0 = .ok (.aload_n 0, 1) := by decide +kernel
theorem d_Row_begin_1 : decode Y_Row_begin.2.1 1 = .ok (.iload_n 1, 1) := by decide +kernel
theorem d_Row_begin_2 : decode Y_Row_begin.2.1 2 = .ok (.putfield 24, 3) := by decide +kernel
theorem d_Row_begin_5 : decode Y_Row_begin.2.1 5 = .ok (.aload_n 0, 1) := by decide +kernel
theorem d_Row_begin_6 : decode Y_Row_begin.2.1 6 = .ok (.getfield 21, 3) := by decide +kernel
theorem d_Row_begin_9 : decode Y_Row_begin.2.1 9 = .ok (.iconst (-1), 1) := by decide +kernel
theorem d_Row_begin_10 : decode Y_Row_begin.2.1 10 = .ok (.invokestatic 28, 3) := by decide +kernel
theorem d_Row_begin_13 : decode Y_Row_begin.2.1 13 = .ok (.aload_n 0, 1) := by decide +kernel
theorem d_Row_begin_14 : decode Y_Row_begin.2.1 14 = .ok (.getfield 9, 3) := by decide +kernel
theorem d_Row_begin_17 : decode Y_Row_begin.2.1 17 = .ok (.iconst 0, 1) := by decide +kernel
theorem d_Row_begin_18 : decode Y_Row_begin.2.1 18 = .ok (.iconst 0, 1) := by decide +kernel
theorem d_Row_begin_19 : decode Y_Row_begin.2.1 19 = .ok (.iastore, 1) := by decide +kernel
theorem d_Row_begin_20 : decode Y_Row_begin.2.1 20 = .ok (.aload_n 0, 1) := by decide +kernel
theorem d_Row_begin_21 : decode Y_Row_begin.2.1 21 = .ok (.getfield 17, 3) := by decide +kernel
theorem d_Row_begin_24 : decode Y_Row_begin.2.1 24 = .ok (.iconst 0, 1) := by decide +kernel
theorem d_Row_begin_25 : decode Y_Row_begin.2.1 25 = .ok (.aload_n 2, 1) := by decide +kernel
theorem d_Row_begin_26 : decode Y_Row_begin.2.1 26 = .ok (.aastore, 1) := by decide +kernel
theorem d_Row_begin_27 : decode Y_Row_begin.2.1 27 = .ok (.aload_n 0, 1) := by decide +kernel
theorem d_Row_begin_28 : decode Y_Row_begin.2.1 28 = .ok (.iconst 1, 1) := by decide +kernel
theorem d_Row_begin_29 : decode Y_Row_begin.2.1 29 = .ok (.putfield 34, 3) := by decide +kernel
theorem d_Row_begin_32 : decode Y_Row_begin.2.1 32 = .ok (.return_, 1) := by decide +kernel
theorem d_Row_become_0 : decode Y_Row_become.2.1 0 = .ok (.aload_n 0, 1) := by decide +kernel
theorem d_Row_become_1 : decode Y_Row_become.2.1 1 = .ok (.aload_n 1, 1) := by decide +kernel
theorem d_Row_become_2 : decode Y_Row_become.2.1 2 = .ok (.getfield 24, 3) := by decide +kernel
theorem d_Row_become_5 : decode Y_Row_become.2.1 5 = .ok (.putfield 24, 3) := by decide +kernel
theorem d_Row_become_8 : decode Y_Row_become.2.1 8 = .ok (.aload_n 0, 1) := by decide +kernel
theorem d_Row_become_9 : decode Y_Row_become.2.1 9 = .ok (.aload_n 1, 1) := by decide +kernel
theorem d_Row_become_10 : decode Y_Row_become.2.1 10 = .ok (.getfield 34, 3) := by decide +kernel
theorem d_Row_become_13 : decode Y_Row_become.2.1 13 = .ok (.putfield 34, 3) := by decide +kernel
theorem d_Row_become_16 : decode Y_Row_become.2.1 16 = .ok (.iconst 0, 1) := by decide +kernel
theorem d_Row_become_17 : decode Y_Row_become.2.1 17 = .ok (.istore_n 2, 1) := by decide +kernel
theorem d_Row_become_18 : decode Y_Row_become.2.1 18 = .ok (.iload_n 2, 1) := by decide +kernel
theorem d_Row_become_19 : decode Y_Row_become.2.1 19 = .ok (.aload_n 0, 1) := by decide +kernel
theorem d_Row_become_20 : decode Y_Row_become.2.1 20 = .ok (.getfield 34, 3) := by decide +kernel
theorem d_Row_become_23 : decode Y_Row_become.2.1 23 = .ok (.if_icmp .ge 33, 3) := by decide +kernel
theorem d_Row_become_26 : decode Y_Row_become.2.1 26 = .ok (.aload_n 0, 1) := by decide +kernel
theorem d_Row_become_27 : decode Y_Row_become.2.1 27 = .ok (.getfield 9, 3) := by decide +kernel
theorem d_Row_become_30 : decode Y_Row_become.2.1 30 = .ok (.iload_n 2, 1) := by decide +kernel
theorem d_Row_become_31 : decode Y_Row_become.2.1 31 = .ok (.aload_n 1, 1) := by decide +kernel
theorem d_Row_become_32 : decode Y_Row_become.2.1 32 = .ok (.getfield 9, 3) := by decide +kernel
theorem d_Row_become_35 : decode Y_Row_become.2.1 35 = .ok (.iload_n 2, 1) := by decide +kernel
theorem d_Row_become_36 : decode Y_Row_become.2.1 36 = .ok (.iaload, 1) := by decide +kernel
theorem d_Row_become_37 : decode Y_Row_become.2.1 37 = .ok (.iastore, 1) := by decide +kernel
theorem d_Row_become_38 : decode Y_Row_become.2.1 38 = .ok (.aload_n 0, 1) := by decide +kernel
theorem d_Row_become_39 : decode Y_Row_become.2.1 39 = .ok (.getfield 17, 3) := by decide +kernel
theorem d_Row_become_42 : decode Y_Row_become.2.1 42 = .ok (.iload_n 2, 1) := by decide +kernel
theorem d_Row_become_43 : decode Y_Row_become.2.1 43 = .ok (.aload_n 1, 1) := by decide +kernel
theorem d_Row_become_44 : decode Y_Row_become.2.1 44 = .ok (.getfield 17, 3) := by decide +kernel
theorem d_Row_become_47 : decode Y_Row_become.2.1 47 = .ok (.iload_n 2, 1) := by decide +kernel
theorem d_Row_become_48 : decode Y_Row_become.2.1 48 = .ok (.aaload, 1) := by decide +kernel
theorem d_Row_become_49 : decode Y_Row_become.2.1 49 = .ok (.aastore, 1) := by decide +kernel
theorem d_Row_become_50 : decode Y_Row_become.2.1 50 = .ok (.iinc 2 1, 3) := by decide +kernel
theorem d_Row_become_53 : decode Y_Row_become.2.1 53 = .ok (.goto (-35), 3) := by decide +kernel
theorem d_Row_become_56 : decode Y_Row_become.2.1 56 = .ok (.iconst 0, 1) := by decide +kernel
theorem d_Row_become_57 : decode Y_Row_become.2.1 57 = .ok (.istore_n 2, 1) := by decide +kernel
theorem d_Row_become_58 : decode Y_Row_become.2.1 58 = .ok (.iload_n 2, 1) := by decide +kernel
theorem d_Row_become_59 : decode Y_Row_become.2.1 59 = .ok (.bipush 8, 2) := by decide +kernel
theorem d_Row_become_61 : decode Y_Row_become.2.1 61 = .ok (.if_icmp .ge 21, 3) := by decide +kernel
theorem d_Row_become_64 : decode Y_Row_become.2.1 64 = .ok (.aload_n 0, 1) := by decide +kernel
theorem d_Row_become_65 : decode Y_Row_become.2.1 65 = .ok (.getfield 21, 3) := by decide +kernel
theorem d_Row_become_68 : decode Y_Row_become.2.1 68 = .ok (.iload_n 2, 1) := by decide +kernel
theorem d_Row_become_69 : decode Y_Row_become.2.1 69 = .ok (.aload_n 1, 1) := by decide +kernel
theorem d_Row_become_70 : decode Y_Row_become.2.1 70 = .ok (.getfield 21, 3) := by decide +kernel
theorem d_Row_become_73 : decode Y_Row_become.2.1 73 = .ok (.iload_n 2, 1) := by decide +kernel
theorem d_Row_become_74 : decode Y_Row_become.2.1 74 = .ok (.iaload, 1) := by decide +kernel
theorem d_Row_become_75 : decode Y_Row_become.2.1 75 = .ok (.iastore, 1) := by decide +kernel
theorem d_Row_become_76 : decode Y_Row_become.2.1 76 = .ok (.iinc 2 1, 3) := by decide +kernel
theorem d_Row_become_79 : decode Y_Row_become.2.1 79 = .ok (.goto (-21), 3) := by decide +kernel
theorem d_Row_become_82 : decode Y_Row_become.2.1 82 = .ok (.return_, 1) := by decide +kernel
theorem d_Row_wishFor_0 : decode Y_Row_wishFor.2.1 0 = .ok (.iconst 0, 1) := by decide +kernel
theorem d_Row_wishFor_1 : decode Y_Row_wishFor.2.1 1 = .ok (.istore_n 2, 1) := by decide +kernel
theorem d_Row_wishFor_2 : decode Y_Row_wishFor.2.1 2 = .ok (.iload_n 2, 1) := by decide +kernel
theorem d_Row_wishFor_3 : decode Y_Row_wishFor.2.1 3 = .ok (.aload_n 0, 1) := by decide +kernel
theorem d_Row_wishFor_4 : decode Y_Row_wishFor.2.1 4 = .ok (.getfield 34, 3) := by decide +kernel
theorem d_Row_wishFor_7 : decode Y_Row_wishFor.2.1 7 = .ok (.if_icmp .ge 21, 3) := by decide +kernel
theorem d_Row_wishFor_10 : decode Y_Row_wishFor.2.1 10 = .ok (.aload_n 0, 1) := by decide +kernel
theorem d_Row_wishFor_11 : decode Y_Row_wishFor.2.1 11 = .ok (.getfield 9, 3) := by decide +kernel
theorem d_Row_wishFor_14 : decode Y_Row_wishFor.2.1 14 = .ok (.iload_n 2, 1) := by decide +kernel
theorem d_Row_wishFor_15 : decode Y_Row_wishFor.2.1 15 = .ok (.iaload, 1) := by decide +kernel
theorem d_Row_wishFor_16 : decode Y_Row_wishFor.2.1 16 = .ok (.iload_n 1, 1) := by decide +kernel
theorem d_Row_wishFor_17 : decode Y_Row_wishFor.2.1 17 = .ok (.if_icmp .ne 5, 3) := by decide +kernel
theorem d_Row_wishFor_20 : decode Y_Row_wishFor.2.1 20 = .ok (.iload_n 2, 1) := by decide +kernel
theorem d_Row_wishFor_21 : decode Y_Row_wishFor.2.1 21 = .ok (.ireturn, 1) := by decide +kernel
theorem d_Row_wishFor_22 : decode Y_Row_wishFor.2.1 22 = .ok (.iinc 2 1, 3) := by decide +kernel
theorem d_Row_wishFor_25 : decode Y_Row_wishFor.2.1 25 = .ok (.goto (-23), 3) := by decide +kernel
theorem d_Row_wishFor_28 : decode Y_Row_wishFor.2.1 28 = .ok (.iconst (-1), 1) := by decide +kernel
theorem d_Row_wishFor_29 : decode Y_Row_wishFor.2.1 29 = .ok (.ireturn, 1) := by decide +kernel
theorem d_Row_tidy_0 : decode Y_Row_tidy.2.1 0 = .ok (.iconst 0, 1) := by decide +kernel
theorem d_Row_tidy_1 : decode Y_Row_tidy.2.1 1 = .ok (.istore_n 1, 1) := by decide +kernel
theorem d_Row_tidy_2 : decode Y_Row_tidy.2.1 2 = .ok (.iconst 0, 1) := by decide +kernel
theorem d_Row_tidy_3 : decode Y_Row_tidy.2.1 3 = .ok (.istore_n 2, 1) := by decide +kernel
theorem d_Row_tidy_4 : decode Y_Row_tidy.2.1 4 = .ok (.iload_n 2, 1) := by decide +kernel
theorem d_Row_tidy_5 : decode Y_Row_tidy.2.1 5 = .ok (.bipush 24, 2) := by decide +kernel
theorem d_Row_tidy_7 : decode Y_Row_tidy.2.1 7 = .ok (.if_icmp .ge 77, 3) := by decide +kernel
theorem d_Row_tidy_10 : decode Y_Row_tidy.2.1 10 = .ok (.iload_n 1, 1) := by decide +kernel
theorem d_Row_tidy_11 : decode Y_Row_tidy.2.1 11 = .ok (.aload_n 0, 1) := by decide +kernel
theorem d_Row_tidy_12 : decode Y_Row_tidy.2.1 12 = .ok (.getfield 34, 3) := by decide +kernel
theorem d_Row_tidy_15 : decode Y_Row_tidy.2.1 15 = .ok (.if_icmp .ge 69, 3) := by decide +kernel
theorem d_Row_tidy_18 : decode Y_Row_tidy.2.1 18 = .ok (.aload_n 0, 1) := by decide +kernel
theorem d_Row_tidy_19 : decode Y_Row_tidy.2.1 19 = .ok (.getfield 17, 3) := by decide +kernel
theorem d_Row_tidy_22 : decode Y_Row_tidy.2.1 22 = .ok (.iload_n 1, 1) := by decide +kernel
theorem d_Row_tidy_23 : decode Y_Row_tidy.2.1 23 = .ok (.aaload, 1) := by decide +kernel
theorem d_Row_tidy_24 : decode Y_Row_tidy.2.1 24 = .ok (.astore_n 3, 1) := by decide +kernel
theorem d_Row_tidy_25 : decode Y_Row_tidy.2.1 25 = .ok (.aload_n 3, 1) := by decide +kernel
theorem d_Row_tidy_26 : decode Y_Row_tidy.2.1 26 = .ok (.getfield 37, 3) := by decide +kernel
theorem d_Row_tidy_29 : decode Y_Row_tidy.2.1 29 = .ok (.ifCond .eq 17, 3) := by decide +kernel
theorem d_Row_tidy_32 : decode Y_Row_tidy.2.1 32 = .ok (.aload_n 0, 1) := by decide +kernel
theorem d_Row_tidy_33 : decode Y_Row_tidy.2.1 33 = .ok (.aload_n 3, 1) := by decide +kernel
theorem d_Row_tidy_34 : decode Y_Row_tidy.2.1 34 = .ok (.getfield 37, 3) := by decide +kernel
theorem d_Row_tidy_37 : decode Y_Row_tidy.2.1 37 = .ok (.aload_n 0, 1) := by decide +kernel
theorem d_Row_tidy_38 : decode Y_Row_tidy.2.1 38 = .ok (.getfield 9, 3) := by decide +kernel
theorem d_Row_tidy_41 : decode Y_Row_tidy.2.1 41 = .ok (.iload_n 1, 1) := by decide +kernel
theorem d_Row_tidy_42 : decode Y_Row_tidy.2.1 42 = .ok (.iaload, 1) := by decide +kernel
theorem d_Row_tidy_43 : decode Y_Row_tidy.2.1 43 = .ok (.invokevirtual 40, 3) := by decide +kernel
theorem d_Row_tidy_46 : decode Y_Row_tidy.2.1 46 = .ok (.aload_n 3, 1) := by decide +kernel
theorem d_Row_tidy_47 : decode Y_Row_tidy.2.1 47 = .ok (.getfield 44, 3) := by decide +kernel
theorem d_Row_tidy_50 : decode Y_Row_tidy.2.1 50 = .ok (.iconst 3, 1) := by decide +kernel
theorem d_Row_tidy_51 : decode Y_Row_tidy.2.1 51 = .ok (.if_icmp .ne 5, 3) := by decide +kernel
theorem d_Row_tidy_54 : decode Y_Row_tidy.2.1 54 = .ok (.iload_n 1, 1) := by decide +kernel
theorem d_Row_tidy_55 : decode Y_Row_tidy.2.1 55 = .ok (.ireturn, 1) := by decide +kernel
theorem d_Row_tidy_56 : decode Y_Row_tidy.2.1 56 = .ok (.aload_n 3, 1) := by decide +kernel
theorem d_Row_tidy_57 : decode Y_Row_tidy.2.1 57 = .ok (.getfield 44, 3) := by decide +kernel
theorem d_Row_tidy_60 : decode Y_Row_tidy.2.1 60 = .ok (.iconst 2, 1) := by decide +kernel
theorem d_Row_tidy_61 : decode Y_Row_tidy.2.1 61 = .ok (.if_icmp .ne 14, 3) := by decide +kernel
theorem d_Row_tidy_64 : decode Y_Row_tidy.2.1 64 = .ok (.aload_n 0, 1) := by decide +kernel
theorem d_Row_tidy_65 : decode Y_Row_tidy.2.1 65 = .ok (.iload_n 1, 1) := by decide +kernel
theorem d_Row_tidy_66 : decode Y_Row_tidy.2.1 66 = .ok (.iconst 1, 1) := by decide +kernel
theorem d_Row_tidy_67 : decode Y_Row_tidy.2.1 67 = .ok (.iadd, 1) := by decide +kernel
theorem d_Row_tidy_68 : decode Y_Row_tidy.2.1 68 = .ok (.iconst (-1), 1) := by decide +kernel
theorem d_Row_tidy_69 : decode Y_Row_tidy.2.1 69 = .ok (.invokevirtual 47, 3) := by decide +kernel
theorem d_Row_tidy_72 : decode Y_Row_tidy.2.1 72 = .ok (.goto 6, 3) := by decide +kernel
theorem d_Row_tidy_75 : decode Y_Row_tidy.2.1 75 = .ok (.iinc 1 1, 3) := by decide +kernel
theorem d_Row_tidy_78 : decode Y_Row_tidy.2.1 78 = .ok (.iinc 2 1, 3) := by decide +kernel
theorem d_Row_tidy_81 : decode Y_Row_tidy.2.1 81 = .ok (.goto (-77), 3) := by decide +kernel
theorem d_Row_tidy_84 : decode Y_Row_tidy.2.1 84 = .ok (.iconst (-1), 1) := by decide +kernel
theorem d_Row_tidy_85 : decode Y_Row_tidy.2.1 85 = .ok (.ireturn, 1) := by decide +kernel
theorem d_Row_bindNames_0 : decode Y_Row_bindNames.2.1 0 = .ok (.iconst 0, 1) := by decide +kernel
theorem d_Row_bindNames_1 : decode Y_Row_bindNames.2.1 1 = .ok (.istore_n 3, 1) := by decide +kernel
theorem d_Row_bindNames_2 : decode Y_Row_bindNames.2.1 2 = .ok (.iload_n 3, 1) := by decide +kernel
theorem d_Row_bindNames_3 : decode Y_Row_bindNames.2.1 3 = .ok (.bipush 8, 2) := by decide +kernel
theorem d_Row_bindNames_5 : decode Y_Row_bindNames.2.1 5 = .ok (.if_icmp .ge 25, 3) := by decide +kernel
theorem d_Row_bindNames_8 : decode Y_Row_bindNames.2.1 8 = .ok (.iload_n 1, 1) := by decide +kernel
theorem d_Row_bindNames_9 : decode Y_Row_bindNames.2.1 9 = .ok (.iload_n 3, 1) := by decide +kernel
theorem d_Row_bindNames_10 : decode Y_Row_bindNames.2.1 10 = .ok (.ishr, 1) := by decide +kernel
theorem d_Row_bindNames_11 : decode Y_Row_bindNames.2.1 11 = .ok (.iconst 1, 1) := by decide +kernel
theorem d_Row_bindNames_12 : decode Y_Row_bindNames.2.1 12 = .ok (.iand, 1) := by decide +kernel
theorem d_Row_bindNames_13 : decode Y_Row_bindNames.2.1 13 = .ok (.iconst 1, 1) := by decide +kernel
theorem d_Row_bindNames_14 : decode Y_Row_bindNames.2.1 14 = .ok (.if_icmp .ne 10, 3) := by decide +kernel
theorem d_Row_bindNames_17 : decode Y_Row_bindNames.2.1 17 = .ok (.aload_n 0, 1) := by decide +kernel
theorem d_Row_bindNames_18 : decode Y_Row_bindNames.2.1 18 = .ok (.getfield 21, 3) := by decide +kernel
theorem d_Row_bindNames_21 : decode Y_Row_bindNames.2.1 21 = .ok (.iload_n 3, 1) := by decide +kernel
theorem d_Row_bindNames_22 : decode Y_Row_bindNames.2.1 22 = .ok (.iload_n 2, 1) := by decide +kernel
theorem d_Row_bindNames_23 : decode Y_Row_bindNames.2.1 23 = .ok (.iastore, 1) := by decide +kernel
theorem d_Row_bindNames_24 : decode Y_Row_bindNames.2.1 24 = .ok (.iinc 3 1, 3) := by decide +kernel
theorem d_Row_bindNames_27 : decode Y_Row_bindNames.2.1 27 = .ok (.goto (-25), 3) := by decide +kernel
theorem d_Row_bindNames_30 : decode Y_Row_bindNames.2.1 30 = .ok (.return_, 1) := by decide +kernel
theorem d_Row_choose_0 : decode Y_Row_choose.2.1 0 = .ok (.aload_n 0, 1) := by decide +kernel
theorem d_Row_choose_1 : decode Y_Row_choose.2.1 1 = .ok (.getfield 17, 3) := by decide +kernel
theorem d_Row_choose_4 : decode Y_Row_choose.2.1 4 = .ok (.iload_n 1, 1) := by decide +kernel
theorem d_Row_choose_5 : decode Y_Row_choose.2.1 5 = .ok (.aload_n 0, 1) := by decide +kernel
theorem d_Row_choose_6 : decode Y_Row_choose.2.1 6 = .ok (.getfield 17, 3) := by decide +kernel
theorem d_Row_choose_9 : decode Y_Row_choose.2.1 9 = .ok (.iload_n 1, 1) := by decide +kernel
theorem d_Row_choose_10 : decode Y_Row_choose.2.1 10 = .ok (.aaload, 1) := by decide +kernel
theorem d_Row_choose_11 : decode Y_Row_choose.2.1 11 = .ok (.getfield 50, 3) := by decide +kernel
theorem d_Row_choose_14 : decode Y_Row_choose.2.1 14 = .ok (.iload_n 2, 1) := by decide +kernel
theorem d_Row_choose_15 : decode Y_Row_choose.2.1 15 = .ok (.aaload, 1) := by decide +kernel
theorem d_Row_choose_16 : decode Y_Row_choose.2.1 16 = .ok (.aastore, 1) := by decide +kernel
theorem d_Row_choose_17 : decode Y_Row_choose.2.1 17 = .ok (.return_, 1) := by decide +kernel
theorem d_Row_open_0 : decode Y_Row_open.2.1 0 = .ok (.aload_n 0, 1) := by decide +kernel
theorem d_Row_open_1 : decode Y_Row_open.2.1 1 = .ok (.getfield 17, 3) := by decide +kernel
theorem d_Row_open_4 : decode Y_Row_open.2.1 4 = .ok (.iload_n 1, 1) := by decide +kernel
theorem d_Row_open_5 : decode Y_Row_open.2.1 5 = .ok (.aaload, 1) := by decide +kernel
theorem d_Row_open_6 : decode Y_Row_open.2.1 6 = .ok (.getfield 50, 3) := by decide +kernel
theorem d_Row_open_9 : decode Y_Row_open.2.1 9 = .ok (.astore_n 3, 1) := by decide +kernel
theorem d_Row_open_10 : decode Y_Row_open.2.1 10 = .ok (.aload_n 0, 1) := by decide +kernel
theorem d_Row_open_11 : decode Y_Row_open.2.1 11 = .ok (.getfield 34, 3) := by decide +kernel
theorem d_Row_open_14 : decode Y_Row_open.2.1 14 = .ok (.aload_n 3, 1) := by decide +kernel
theorem d_Row_open_15 : decode Y_Row_open.2.1 15 = .ok (.arraylength, 1) := by decide +kernel
theorem d_Row_open_16 : decode Y_Row_open.2.1 16 = .ok (.iadd, 1) := by decide +kernel
theorem d_Row_open_17 : decode Y_Row_open.2.1 17 = .ok (.iconst 1, 1) := by decide +kernel
theorem d_Row_open_18 : decode Y_Row_open.2.1 18 = .ok (.isub, 1) := by decide +kernel
theorem d_Row_open_19 : decode Y_Row_open.2.1 19 = .ok (.bipush 24, 2) := by decide +kernel
theorem d_Row_open_21 : decode Y_Row_open.2.1 21 = .ok (.if_icmp .le 4, 3) := by decide +kernel
theorem d_Row_open_24 : decode Y_Row_open.2.1 24 = .ok (.return_, 1) := by decide +kernel
theorem d_Row_open_25 : decode Y_Row_open.2.1 25 = .ok (.aload_n 0, 1) := by decide +kernel
theorem d_Row_open_26 : decode Y_Row_open.2.1 26 = .ok (.iload_n 1, 1) := by decide +kernel
theorem d_Row_open_27 : decode Y_Row_open.2.1 27 = .ok (.iconst 1, 1) := by decide +kernel
theorem d_Row_open_28 : decode Y_Row_open.2.1 28 = .ok (.iadd, 1) := by decide +kernel
theorem d_Row_open_29 : decode Y_Row_open.2.1 29 = .ok (.aload_n 3, 1) := by decide +kernel
theorem d_Row_open_30 : decode Y_Row_open.2.1 30 = .ok (.arraylength, 1) := by decide +kernel
theorem d_Row_open_31 : decode Y_Row_open.2.1 31 = .ok (.iconst 1, 1) := by decide +kernel
theorem d_Row_open_32 : decode Y_Row_open.2.1 32 = .ok (.isub, 1) := by decide +kernel
theorem d_Row_open_33 : decode Y_Row_open.2.1 33 = .ok (.invokevirtual 47, 3) := by decide +kernel
theorem d_Row_open_36 : decode Y_Row_open.2.1 36 = .ok (.iconst 0, 1) := by decide +kernel
theorem d_Row_open_37 : decode Y_Row_open.2.1 37 = .ok (.istore 4, 2) := by decide +kernel
theorem d_Row_open_39 : decode Y_Row_open.2.1 39 = .ok (.iload 4, 2) := by decide +kernel
theorem d_Row_open_41 : decode Y_Row_open.2.1 41 = .ok (.aload_n 3, 1) := by decide +kernel
theorem d_Row_open_42 : decode Y_Row_open.2.1 42 = .ok (.arraylength, 1) := by decide +kernel
theorem d_Row_open_43 : decode Y_Row_open.2.1 43 = .ok (.if_icmp .ge 35, 3) := by decide +kernel
theorem d_Row_open_46 : decode Y_Row_open.2.1 46 = .ok (.aload_n 0, 1) := by decide +kernel
theorem d_Row_open_47 : decode Y_Row_open.2.1 47 = .ok (.getfield 9, 3) := by decide +kernel
theorem d_Row_open_50 : decode Y_Row_open.2.1 50 = .ok (.iload_n 1, 1) := by decide +kernel
theorem d_Row_open_51 : decode Y_Row_open.2.1 51 = .ok (.iload 4, 2) := by decide +kernel
theorem d_Row_open_53 : decode Y_Row_open.2.1 53 = .ok (.iadd, 1) := by decide +kernel
theorem d_Row_open_54 : decode Y_Row_open.2.1 54 = .ok (.iload_n 2, 1) := by decide +kernel
theorem d_Row_open_55 : decode Y_Row_open.2.1 55 = .ok (.iload 4, 2) := by decide +kernel
theorem d_Row_open_57 : decode Y_Row_open.2.1 57 = .ok (.iadd, 1) := by decide +kernel
theorem d_Row_open_58 : decode Y_Row_open.2.1 58 = .ok (.iastore, 1) := by decide +kernel
theorem d_Row_open_59 : decode Y_Row_open.2.1 59 = .ok (.aload_n 0, 1) := by decide +kernel
theorem d_Row_open_60 : decode Y_Row_open.2.1 60 = .ok (.getfield 17, 3) := by decide +kernel
theorem d_Row_open_63 : decode Y_Row_open.2.1 63 = .ok (.iload_n 1, 1) := by decide +kernel
theorem d_Row_open_64 : decode Y_Row_open.2.1 64 = .ok (.iload 4, 2) := by decide +kernel
theorem d_Row_open_66 : decode Y_Row_open.2.1 66 = .ok (.iadd, 1) := by decide +kernel
theorem d_Row_open_67 : decode Y_Row_open.2.1 67 = .ok (.aload_n 3, 1) := by decide +kernel
theorem d_Row_open_68 : decode Y_Row_open.2.1 68 = .ok (.iload 4, 2) := by decide +kernel
theorem d_Row_open_70 : decode Y_Row_open.2.1 70 = .ok (.aaload, 1) := by decide +kernel
theorem d_Row_open_71 : decode Y_Row_open.2.1 71 = .ok (.aastore, 1) := by decide +kernel
theorem d_Row_open_72 : decode Y_Row_open.2.1 72 = .ok (.iinc 4 1, 3) := by decide +kernel
theorem d_Row_open_75 : decode Y_Row_open.2.1 75 = .ok (.goto (-36), 3) := by decide +kernel
theorem d_Row_open_78 : decode Y_Row_open.2.1 78 = .ok (.return_, 1) := by decide +kernel
theorem d_Row_moveWishes_0 : decode Y_Row_moveWishes.2.1 0 = .ok (.iload_n 2, 1) := by decide +kernel
theorem d_Row_moveWishes_1 : decode Y_Row_moveWishes.2.1 1 = .ok (.ifCond .le 52, 3) := by decide +kernel
theorem d_Row_moveWishes_4 : decode Y_Row_moveWishes.2.1 4 = .ok (.aload_n 0, 1) := by decide +kernel
theorem d_Row_moveWishes_5 : decode Y_Row_moveWishes.2.1 5 = .ok (.getfield 34, 3) := by decide +kernel
theorem d_Row_moveWishes_8 : decode Y_Row_moveWishes.2.1 8 = .ok (.iconst 1, 1) := by decide +kernel
theorem d_Row_moveWishes_9 : decode Y_Row_moveWishes.2.1 9 = .ok (.isub, 1) := by decide +kernel
theorem d_Row_moveWishes_10 : decode Y_Row_moveWishes.2.1 10 = .ok (.istore_n 3, 1) := by decide +kernel
theorem d_Row_moveWishes_11 : decode Y_Row_moveWishes.2.1 11 = .ok (.iload_n 3, 1) := by decide +kernel
theorem d_Row_moveWishes_12 : decode Y_Row_moveWishes.2.1 12 = .ok (.iload_n 1, 1) := by decide +kernel
theorem d_Row_moveWishes_13 : decode Y_Row_moveWishes.2.1 13 = .ok (.if_icmp .lt 37, 3) := by decide +kernel
theorem d_Row_moveWishes_16 : decode Y_Row_moveWishes.2.1 16 = .ok (.aload_n 0, 1) := by decide +kernel
theorem d_Row_moveWishes_17 : decode Y_Row_moveWishes.2.1 17 = .ok (.getfield 9, 3) := by decide +kernel
theorem d_Row_moveWishes_20 : decode Y_Row_moveWishes.2.1 20 = .ok (.iload_n 3, 1) := by decide +kernel
theorem d_Row_moveWishes_21 : decode Y_Row_moveWishes.2.1 21 = .ok (.iload_n 2, 1) := by decide +kernel
theorem d_Row_moveWishes_22 : decode Y_Row_moveWishes.2.1 22 = .ok (.iadd, 1) := by decide +kernel
theorem d_Row_moveWishes_23 : decode Y_Row_moveWishes.2.1 23 = .ok (.aload_n 0, 1) := by decide +kernel
theorem d_Row_moveWishes_24 : decode Y_Row_moveWishes.2.1 24 = .ok (.getfield 9, 3) := by decide +kernel
theorem d_Row_moveWishes_27 : decode Y_Row_moveWishes.2.1 27 = .ok (.iload_n 3, 1) := by decide +kernel
theorem d_Row_moveWishes_28 : decode Y_Row_moveWishes.2.1 28 = .ok (.iaload, 1) := by decide +kernel
theorem d_Row_moveWishes_29 : decode Y_Row_moveWishes.2.1 29 = .ok (.iastore, 1) := by decide +kernel
theorem d_Row_moveWishes_30 : decode Y_Row_moveWishes.2.1 30 = .ok (.aload_n 0, 1) := by decide +kernel
theorem d_Row_moveWishes_31 : decode Y_Row_moveWishes.2.1 31 = .ok (.getfield 17, 3) := by decide +kernel
theorem d_Row_moveWishes_34 : decode Y_Row_moveWishes.2.1 34 = .ok (.iload_n 3, 1) := by decide +kernel
theorem d_Row_moveWishes_35 : decode Y_Row_moveWishes.2.1 35 = .ok (.iload_n 2, 1) := by decide +kernel
theorem d_Row_moveWishes_36 : decode Y_Row_moveWishes.2.1 36 = .ok (.iadd, 1) := by decide +kernel
theorem d_Row_moveWishes_37 : decode Y_Row_moveWishes.2.1 37 = .ok (.aload_n 0, 1) := by decide +kernel
theorem d_Row_moveWishes_38 : decode Y_Row_moveWishes.2.1 38 = .ok (.getfield 17, 3) := by decide +kernel
theorem d_Row_moveWishes_41 : decode Y_Row_moveWishes.2.1 41 = .ok (.iload_n 3, 1) := by decide +kernel
theorem d_Row_moveWishes_42 : decode Y_Row_moveWishes.2.1 42 = .ok (.aaload, 1) := by decide +kernel
theorem d_Row_moveWishes_43 : decode Y_Row_moveWishes.2.1 43 = .ok (.aastore, 1) := by decide +kernel
theorem d_Row_moveWishes_44 : decode Y_Row_moveWishes.2.1 44 = .ok (.iinc 3 (-1), 3) := by decide +kernel
theorem d_Row_moveWishes_47 : decode Y_Row_moveWishes.2.1 47 = .ok (.goto (-36), 3) := by decide +kernel
theorem d_Row_moveWishes_50 : decode Y_Row_moveWishes.2.1 50 = .ok (.goto 51, 3) := by decide +kernel
theorem d_Row_moveWishes_53 : decode Y_Row_moveWishes.2.1 53 = .ok (.iload_n 2, 1) := by decide +kernel
theorem d_Row_moveWishes_54 : decode Y_Row_moveWishes.2.1 54 = .ok (.ifCond .ge 47, 3) := by decide +kernel
theorem d_Row_moveWishes_57 : decode Y_Row_moveWishes.2.1 57 = .ok (.iload_n 1, 1) := by decide +kernel
theorem d_Row_moveWishes_58 : decode Y_Row_moveWishes.2.1 58 = .ok (.istore_n 3, 1) := by decide +kernel
theorem d_Row_moveWishes_59 : decode Y_Row_moveWishes.2.1 59 = .ok (.iload_n 3, 1) := by decide +kernel
theorem d_Row_moveWishes_60 : decode Y_Row_moveWishes.2.1 60 = .ok (.aload_n 0, 1) := by decide +kernel
theorem d_Row_moveWishes_61 : decode Y_Row_moveWishes.2.1 61 = .ok (.getfield 34, 3) := by decide +kernel
theorem d_Row_moveWishes_64 : decode Y_Row_moveWishes.2.1 64 = .ok (.if_icmp .ge 37, 3) := by decide +kernel
theorem d_Row_moveWishes_67 : decode Y_Row_moveWishes.2.1 67 = .ok (.aload_n 0, 1) := by decide +kernel
theorem d_Row_moveWishes_68 : decode Y_Row_moveWishes.2.1 68 = .ok (.getfield 9, 3) := by decide +kernel
theorem d_Row_moveWishes_71 : decode Y_Row_moveWishes.2.1 71 = .ok (.iload_n 3, 1) := by decide +kernel
theorem d_Row_moveWishes_72 : decode Y_Row_moveWishes.2.1 72 = .ok (.iload_n 2, 1) := by decide +kernel
theorem d_Row_moveWishes_73 : decode Y_Row_moveWishes.2.1 73 = .ok (.iadd, 1) := by decide +kernel
theorem d_Row_moveWishes_74 : decode Y_Row_moveWishes.2.1 74 = .ok (.aload_n 0, 1) := by decide +kernel
theorem d_Row_moveWishes_75 : decode Y_Row_moveWishes.2.1 75 = .ok (.getfield 9, 3) := by decide +kernel
theorem d_Row_moveWishes_78 : decode Y_Row_moveWishes.2.1 78 = .ok (.iload_n 3, 1) := by decide +kernel
theorem d_Row_moveWishes_79 : decode Y_Row_moveWishes.2.1 79 = .ok (.iaload, 1) := by decide +kernel
theorem d_Row_moveWishes_80 : decode Y_Row_moveWishes.2.1 80 = .ok (.iastore, 1) := by decide +kernel
theorem d_Row_moveWishes_81 : decode Y_Row_moveWishes.2.1 81 = .ok (.aload_n 0, 1) := by decide +kernel
theorem d_Row_moveWishes_82 : decode Y_Row_moveWishes.2.1 82 = .ok (.getfield 17, 3) := by decide +kernel
theorem d_Row_moveWishes_85 : decode Y_Row_moveWishes.2.1 85 = .ok (.iload_n 3, 1) := by decide +kernel
theorem d_Row_moveWishes_86 : decode Y_Row_moveWishes.2.1 86 = .ok (.iload_n 2, 1) := by decide +kernel
theorem d_Row_moveWishes_87 : decode Y_Row_moveWishes.2.1 87 = .ok (.iadd, 1) := by decide +kernel
theorem d_Row_moveWishes_88 : decode Y_Row_moveWishes.2.1 88 = .ok (.aload_n 0, 1) := by decide +kernel
theorem d_Row_moveWishes_89 : decode Y_Row_moveWishes.2.1 89 = .ok (.getfield 17, 3) := by decide +kernel
theorem d_Row_moveWishes_92 : decode Y_Row_moveWishes.2.1 92 = .ok (.iload_n 3, 1) := by decide +kernel
theorem d_Row_moveWishes_93 : decode Y_Row_moveWishes.2.1 93 = .ok (.aaload, 1) := by decide +kernel
theorem d_Row_moveWishes_94 : decode Y_Row_moveWishes.2.1 94 = .ok (.aastore, 1) := by decide +kernel
theorem d_Row_moveWishes_95 : decode Y_Row_moveWishes.2.1 95 = .ok (.iinc 3 1, 3) := by decide +kernel
theorem d_Row_moveWishes_98 : decode Y_Row_moveWishes.2.1 98 = .ok (.goto (-39), 3) := by decide +kernel
theorem d_Row_moveWishes_101 : decode Y_Row_moveWishes.2.1 101 = .ok (.aload_n 0, 1) := by decide +kernel
theorem d_Row_moveWishes_102 : decode Y_Row_moveWishes.2.1 102 = .ok (.dup, 1) := by decide +kernel
theorem d_Row_moveWishes_103 : decode Y_Row_moveWishes.2.1 103 = .ok (.getfield 34, 3) := by decide +kernel
theorem d_Row_moveWishes_106 : decode Y_Row_moveWishes.2.1 106 = .ok (.iload_n 2, 1) := by decide +kernel
theorem d_Row_moveWishes_107 : decode Y_Row_moveWishes.2.1 107 = .ok (.iadd, 1) := by decide +kernel
theorem d_Row_moveWishes_108 : decode Y_Row_moveWishes.2.1 108 = .ok (.putfield 34, 3) := by decide +kernel
theorem d_Row_moveWishes_111 : decode Y_Row_moveWishes.2.1 111 = .ok (.return_, 1) := by decide +kernel
section AO
variable {E : gE} {d : Nat} {G G0 : gS} {a n sl : Nat} {c : cS} {u : uS} {b b2 : Nat} {x x0 : xS} {Q : gO → gS → Prop}
theorem ilt {i m : Nat} (hi : i < 2 ^ 31) (hm : m < 2 ^ 31) (h : m ≤ i) : ¬ ¬ nI m ≤ nI i := fun q => q ((le_hi (nI_hi hm) (nI_hi hi)).mpr h)
theorem ige {i m : Nat} (hi : i < 2 ^ 31) (hm : m < 2 ^ 31) (h : i < m) : ¬ nI m ≤ nI i := fun q => by
  have := (le_hi (nI_hi hm) (nI_hi hi)).mp q
  omega
set_option maxHeartbeats 400000 in
set_option maxRecDepth 100000 in
theorem m_R_begin (hw : rowW u a b) {ow t : Nat} (ht : zIs u a t 7) : GM E Y_Row_begin (d + 1) [.ref b, .int (nI ow), .ref t] (yW E G a c (uR u b x) n sl) (rPost none (fun G' => ∃ x', G' = yW E G a c (uR u b x') n sl ∧ hX x' ow [(0, t)] (fun _ => none))) := by
  refine g_entry (by decide) (by simp [Value.category]) (Nat.le_of_ble_eq_true rfl) ?_
  refine g_aload_n d_Row_begin_0 rfl ?_
  refine g_iload_n d_Row_begin_1 rfl ?_
  refine r_putF (j := 3) (v := nI ow) fl_Row_24 hw (by decide) d_Row_begin_2 ?_
  refine g_aload_n d_Row_begin_5 rfl ?_
  refine r_getA (j := 2) fl_Row_21 hw (by decide) d_Row_begin_6 ?_
  refine g_iconst (v := (-1)) d_Row_begin_9 (by decide) ?_
  refine c_Sr (as := [.ref (b + 3), .int ((-1))]) ks_Arrays_fill ml_Row_28 (z_fill (N := 8) (k := 4) (u := uR u b (xF x 3 (nI ow))) (f := fun _ => 0) hw.2.2.2 (by decide) (fun _ => rfl) (by decide) (-1)) rfl (Nat.le_of_ble_eq_true rfl) rfl d_Row_begin_10 rfl ?_
  rw [uR3, uR_fill]
  refine g_aload_n d_Row_begin_13 rfl ?_
  refine r_getA (j := 0) fl_Row_9 hw (by decide) d_Row_begin_14 ?_
  refine g_iconst (v := 0) d_Row_begin_17 (by decide) ?_
  refine g_iconst (v := 0) d_Row_begin_18 (by decide) ?_
  refine r_ast1 (j := 0) (v := 0) hw (by decide) (by decide) d_Row_begin_19 ?_
  refine g_aload_n d_Row_begin_20 rfl ?_
  refine r_getA (j := 1) fl_Row_17 hw (by decide) d_Row_begin_21 ?_
  refine g_iconst (v := 0) d_Row_begin_24 (by decide) ?_
  refine g_aload_n d_Row_begin_25 rfl ?_
  refine r_tast (j := 0) hw (by decide) (by decide) ht d_Row_begin_26 ?_
  refine g_aload_n d_Row_begin_27 rfl ?_
  refine g_iconst (v := 1) d_Row_begin_28 (by decide) ?_
  refine r_putF (j := 4) (v := 1) fl_Row_34 hw (by decide) d_Row_begin_29 ?_
  refine g_vret rfl d_Row_begin_32 ?_
  refine ⟨rfl, _, rfl, rfl, rfl, fun k q hk => ?_, fun k hk => ?_⟩
  · have hlt : k < 1 := (List.getElem?_eq_some_iff.mp hk).1
    have e : k = 0 := by omega
    subst e
    cases hk
    exact ⟨rfl, rfl⟩
  · show fillF _ 8 (-1) k = -1
    exact if_pos hk
/-- the first i wishes are copied -/
def bc1 (x : xS) (ow : Nat) (ws : List (Nat × Nat)) (i : Nat) : Prop := x.1 3 = nI ow ∧ x.1 4 = nI ws.length ∧ ∀ k q, k < i → ws[k]? = some q → x.2.1 k = nI q.1 ∧ x.2.2.1 k = some q.2
theorem bc1_s {ow i : Nat} {ws : List (Nat × Nat)} {q : Nat × Nat} (h : bc1 x ow ws i) (hq : ws[i]? = some q) {v : Int32} (hv : v = nI q.1) : bc1 (xT (xP x i v) i (some q.2)) ow ws (i + 1) := by
  refine ⟨h.1, h.2.1, fun k y hk hy => ?_⟩
  by_cases e : k = i
  · subst e
    rw [hq] at hy
    cases hy
    refine ⟨?_, ?_⟩
    · show upd x.2.1 k v k = _
      rw [up_at]
      exact hv
    · show va_up x.2.2.1 k _ k = _
      exact if_pos rfl
  · have := h.2.2 k y (by omega) hy
    refine ⟨?_, ?_⟩
    · show upd x.2.1 i v k = _
      rw [up_ne e]
      exact this.1
    · show va_up x.2.2.1 i _ k = _
      rw [va_up, if_neg e]
      exact this.2
set_option maxHeartbeats 400000 in
set_option maxRecDepth 100000 in
theorem m_R_bec1 (hw : rowW u a b) (hw2 : rowW u a b2) (hd : b2 + 4 ≤ b ∨ b + 4 ≤ b2) {ow : Nat} {ws : List (Nat × Nat)} {bd : Nat → Option Nat} (hy : hX (xOf u b2) ow ws bd) (hl : ws.length ≤ 24) (ht : ∀ q ∈ ws, zIs u a q.2 7) : ∀ (m i : Nat) (x : xS), ws.length < i + m → i ≤ ws.length → bc1 x ow ws i → (∀ x', bc1 x' ow ws ws.length → GT E Y_Row_become d G0 56 [(0, .ref b), (1, .ref b2), (2, .int (nI ws.length))] [] (yW E G a c (uR u b x') n sl) Q) → GT E Y_Row_become d G0 18 [(0, .ref b), (1, .ref b2), (2, .int (nI i))] [] (yW E G a c (uR u b x) n sl) Q := by
  intro m
  induction m with
  | zero => intro i x h1 h2; omega
  | succ m ih =>
    intro i x h1 h2 hb kk
    by_cases hi : i < ws.length
    · obtain ⟨q, hq⟩ : ∃ q, ws[i]? = some q := ⟨_, List.getElem?_eq_getElem hi⟩
      have hq2 := hy.2.2.1 i q hq
      refine g_iload_n d_Row_become_18 rfl ?_
      refine g_aload_n d_Row_become_19 rfl ?_
      refine r_getF (j := 4) fl_Row_34 hw (by decide) d_Row_become_20 ?_
      rw [hb.2.1]
      refine g_icmp_ge (tgt := 56) d_Row_become_23 (by decide) (fun c_23 => ?_) (fun c_23 => ?_)
      · exact absurd c_23 (ige (by omega) (by omega) hi)
      refine g_aload_n d_Row_become_26 rfl ?_
      refine r_getA (j := 0) fl_Row_9 hw (by decide) d_Row_become_27 ?_
      refine g_iload_n d_Row_become_30 rfl ?_
      refine g_aload_n d_Row_become_31 rfl ?_
      refine r2_getA (j := 0) fl_Row_9 hw2 (by decide) d_Row_become_32 ?_
      refine g_iload_n d_Row_become_35 rfl ?_
      refine r2_ald1 (j := i) hw2 hd (nI_hi (by omega)) (by omega) d_Row_become_36 ?_
      refine r_ast1 (j := i) (v := (xOf u b2).2.1 i) hw (nI_hi (by omega)) (by omega) d_Row_become_37 ?_
      refine g_aload_n d_Row_become_38 rfl ?_
      refine r_getA (j := 1) fl_Row_17 hw (by decide) d_Row_become_39 ?_
      refine g_iload_n d_Row_become_42 rfl ?_
      refine g_aload_n d_Row_become_43 rfl ?_
      refine r2_getA (j := 1) fl_Row_17 hw2 (by decide) d_Row_become_44 ?_
      refine g_iload_n d_Row_become_47 rfl ?_
      refine r2_tald (j := i) hw2 hd (nI_hi (by omega)) (by omega) hq2.2 d_Row_become_48 ?_
      refine r_tast (j := i) hw (nI_hi (by omega)) (by omega) (ht q (List.mem_of_getElem? hq)) d_Row_become_49 ?_
      have e1 : nI i + Int32.ofInt 1 = nI (i + 1) := nI_1 i
      refine g_iinc (v := nI (i + 1)) d_Row_become_50 rfl e1 (by decide) rfl ?_
      refine g_goto (tgt := 18) d_Row_become_53 (by decide) ?_
      exact ih (i + 1) _ (by omega) (by omega) (bc1_s hb hq hq2.1) kk
    · refine g_iload_n d_Row_become_18 rfl ?_
      refine g_aload_n d_Row_become_19 rfl ?_
      refine r_getF (j := 4) fl_Row_34 hw (by decide) d_Row_become_20 ?_
      rw [hb.2.1]
      refine g_icmp_ge (tgt := 56) d_Row_become_23 (by decide) (fun c_23 => ?_) (fun c_23 => ?_)
      rotate_left
      · exact absurd c_23 (ilt (by omega) (by omega) (by omega))
      have e : i = ws.length := by omega
      subst e
      exact kk x hb
/-- the first i names too -/
def bc2 (x : xS) (ow : Nat) (ws : List (Nat × Nat)) (bd : Nat → Option Nat) (i : Nat) : Prop := bc1 x ow ws ws.length ∧ ∀ k, k < i → x.2.2.2 k = bI (bd k)
theorem bc2_s {ow i : Nat} {ws : List (Nat × Nat)} {bd : Nat → Option Nat} (h : bc2 x ow ws bd i) {v : Int32} (hv : v = bI (bd i)) : bc2 (xN x i v) ow ws bd (i + 1) := by
  refine ⟨h.1, fun k hk => ?_⟩
  show upd x.2.2.2 i v k = _
  by_cases e : k = i
  · rw [e, up_at]
    exact hv
  · rw [up_ne e]
    exact h.2 k (by omega)
theorem hX_of {ow : Nat} {ws : List (Nat × Nat)} {bd : Nat → Option Nat} (h : bc2 x ow ws bd 8) : hX x ow ws bd := ⟨h.1.1, h.1.2.1, fun k q hk => h.1.2.2 k q (List.getElem?_eq_some_iff.mp hk).1 hk, h.2⟩
set_option maxHeartbeats 400000 in
set_option maxRecDepth 100000 in
theorem m_R_bec2 (hw : rowW u a b) (hw2 : rowW u a b2) (hd : b2 + 4 ≤ b ∨ b + 4 ≤ b2) {ow : Nat} {ws : List (Nat × Nat)} {bd : Nat → Option Nat} (hy : hX (xOf u b2) ow ws bd) (hl : ws.length ≤ 24) (ht : ∀ q ∈ ws, zIs u a q.2 7) : ∀ (m i : Nat) (x : xS), 8 < i + m → i ≤ 8 → bc2 x ow ws bd i → (∀ x', hX x' ow ws bd → Q (.inl none) (yW E G a c (uR u b x') n sl)) → GT E Y_Row_become d G0 58 [(0, .ref b), (1, .ref b2), (2, .int (nI i))] [] (yW E G a c (uR u b x) n sl) Q := by
  intro m
  induction m with
  | zero => intro i x h1 h2; omega
  | succ m ih =>
    intro i x h1 h2 hb kk
    by_cases hi : i < 8
    · refine g_iload_n d_Row_become_58 rfl ?_
      refine g_bipush (v := 8) d_Row_become_59 (by decide) ?_
      refine g_icmp_ge (tgt := 82) d_Row_become_61 (by decide) (fun c_61 => ?_) (fun c_61 => ?_)
      · exact absurd c_61 (ige (m := 8) (by omega) (by omega) hi)
      refine g_aload_n d_Row_become_64 rfl ?_
      refine r_getA (j := 2) fl_Row_21 hw (by decide) d_Row_become_65 ?_
      refine g_iload_n d_Row_become_68 rfl ?_
      refine g_aload_n d_Row_become_69 rfl ?_
      refine r2_getA (j := 2) fl_Row_21 hw2 (by decide) d_Row_become_70 ?_
      refine g_iload_n d_Row_become_73 rfl ?_
      refine r2_ald3 (j := i) hw2 hd (nI_hi (by omega)) (by omega) d_Row_become_74 ?_
      refine r_ast3 (j := i) (v := (xOf u b2).2.2.2 i) hw (nI_hi (by omega)) (by omega) d_Row_become_75 ?_
      have e1 : nI i + Int32.ofInt 1 = nI (i + 1) := nI_1 i
      refine g_iinc (v := nI (i + 1)) d_Row_become_76 rfl e1 (by decide) rfl ?_
      refine g_goto (tgt := 58) d_Row_become_79 (by decide) ?_
      exact ih (i + 1) _ (by omega) (by omega) (bc2_s hb (hy.2.2.2 i hi)) kk
    · refine g_iload_n d_Row_become_58 rfl ?_
      refine g_bipush (v := 8) d_Row_become_59 (by decide) ?_
      refine g_icmp_ge (tgt := 82) d_Row_become_61 (by decide) (fun c_61 => ?_) (fun c_61 => ?_)
      rotate_left
      · exact absurd c_61 (ilt (m := 8) (by omega) (by omega) (by omega))
      refine g_vret rfl d_Row_become_82 ?_
      have e : i = 8 := by omega
      subst e
      exact kk x (hX_of hb)
set_option maxHeartbeats 400000 in
set_option maxRecDepth 100000 in
theorem m_R_become (hw : rowW u a b) (hw2 : rowW u a b2) (hd : b2 + 4 ≤ b ∨ b + 4 ≤ b2) {ow : Nat} {ws : List (Nat × Nat)} {bd : Nat → Option Nat} (hy : hX (xOf u b2) ow ws bd) (hl : ws.length ≤ 24) (ht : ∀ q ∈ ws, zIs u a q.2 7) : GM E Y_Row_become d [.ref b, .ref b2] (yW E G a c (uR u b x) n sl) (rPost none (fun G' => ∃ x', G' = yW E G a c (uR u b x') n sl ∧ hX x' ow ws bd)) := by
  refine g_entry (by decide) (by simp [Value.category]) (Nat.le_of_ble_eq_true rfl) ?_
  refine g_aload_n d_Row_become_0 rfl ?_
  refine g_aload_n d_Row_become_1 rfl ?_
  refine r2_getF (j := 3) fl_Row_24 hw2 hd (by decide) d_Row_become_2 ?_
  rw [hy.1]
  refine r_putF (j := 3) (v := nI ow) fl_Row_24 hw (by decide) d_Row_become_5 ?_
  refine g_aload_n d_Row_become_8 rfl ?_
  refine g_aload_n d_Row_become_9 rfl ?_
  refine r2_getF (j := 4) fl_Row_34 hw2 hd (by decide) d_Row_become_10 ?_
  rw [hy.2.1]
  refine r_putF (j := 4) (v := nI ws.length) fl_Row_34 hw (by decide) d_Row_become_13 ?_
  refine g_iconst (v := 0) d_Row_become_16 (by decide) ?_
  refine g_istore_n d_Row_become_17 (by decide) rfl ?_
  have K := m_R_bec1 (E := E) (d := d) (G := G) (G0 := yW E G a c (uR u b x) n sl) (c := c) (n := n) (sl := sl) (Q := rPost none (fun G' => ∃ x', G' = yW E G a c (uR u b x') n sl ∧ hX x' ow ws bd)) hw hw2 hd hy hl ht (ws.length + 1) 0 (xF (xF x 3 (nI ow)) 4 (nI ws.length)) (by omega) (by omega) ⟨rfl, rfl, fun k q hk => by omega⟩ (fun x' hx' => ?_)
  · rw [show nI 0 = 0 from rfl] at K
    exact K
  refine g_iconst (v := 0) d_Row_become_56 (by decide) ?_
  refine g_istore_n d_Row_become_57 (by decide) rfl ?_
  have K := m_R_bec2 (E := E) (d := d) (G := G) (G0 := yW E G a c (uR u b x) n sl) (c := c) (n := n) (sl := sl) (Q := rPost none (fun G' => ∃ x', G' = yW E G a c (uR u b x') n sl ∧ hX x' ow ws bd)) hw hw2 hd hy hl ht 9 0 x' (by omega) (by omega) ⟨hx', fun k hk => by omega⟩ (fun x' hx' => ⟨rfl, x', rfl, hx'⟩)
  rw [show nI 0 = 0 from rfl] at K
  exact K
set_option maxHeartbeats 400000 in
set_option maxRecDepth 100000 in
theorem m_R_has (hw : rowW u a b) : GM E Y_Row_hasWishes d [.ref b] (yW E G a c (uR u b x) n sl) (rIs (some (.int (b32 (0 < x.1 4)))) (yW E G a c (uR u b x) n sl)) := by
  refine g_entry (by decide) (by simp [Value.category]) (Nat.le_of_ble_eq_true rfl) ?_
  refine g_aload_n d_Row_hasWishes_0 rfl ?_
  refine r_getF (j := 4) fl_Row_34 hw (by decide) d_Row_hasWishes_1 ?_
  refine g_if_le (tgt := 11) d_Row_hasWishes_4 (by decide) (fun c_4 => ?_) (fun c_4 => ?_)
  · refine g_iconst (v := 0) d_Row_hasWishes_11 (by decide) ?_
    refine g_zret rfl rfl d_Row_hasWishes_12 ?_
    rw [b32, if_neg (Int32.not_lt.mpr c_4)]
    exact ⟨rfl, rfl⟩
  · refine g_iconst (v := 1) d_Row_hasWishes_7 (by decide) ?_
    refine g_goto (tgt := 12) d_Row_hasWishes_8 (by decide) ?_
    refine g_zret rfl rfl d_Row_hasWishes_12 ?_
    rw [b32, if_pos (Int32.not_le.mp c_4)]
    exact ⟨rfl, rfl⟩
set_option maxHeartbeats 400000 in
set_option maxRecDepth 100000 in
theorem m_R_wf0 (hw : rowW u a b) {ow p : Nat} {ws : List (Nat × Nat)} {bd : Nat → Option Nat} (hx : hX x ow ws bd) (hl : ws.length ≤ 24) (hb : ∀ q ∈ ws, q.1 < 2 ^ 31) (hp : p < 2 ^ 31) (hn : ∀ q ∈ ws, q.1 ≠ p) : ∀ (m i : Nat), ws.length < i + m → i ≤ ws.length → GT E Y_Row_wishFor d G0 2 [(0, .ref b), (1, .int (nI p)), (2, .int (nI i))] [] (yW E G a c (uR u b x) n sl) (rIs (some (.int (-1))) (yW E G a c (uR u b x) n sl)) := by
  intro m
  induction m with
  | zero => intro i h1 h2; omega
  | succ m ih =>
    intro i h1 h2
    by_cases hi : i < ws.length
    · obtain ⟨q, hq⟩ : ∃ q, ws[i]? = some q := ⟨_, List.getElem?_eq_getElem hi⟩
      have hq2 := hx.2.2.1 i q hq
      have hqb := hb q (List.mem_of_getElem? hq)
      have hne := hn q (List.mem_of_getElem? hq)
      refine g_iload_n d_Row_wishFor_2 rfl ?_
      refine g_aload_n d_Row_wishFor_3 rfl ?_
      refine r_getF (j := 4) fl_Row_34 hw (by decide) d_Row_wishFor_4 ?_
      rw [hx.2.1]
      refine g_icmp_ge (tgt := 28) d_Row_wishFor_7 (by decide) (fun c_7 => ?_) (fun c_7 => ?_)
      · exact absurd c_7 (ige (by omega) (by omega) hi)
      refine g_aload_n d_Row_wishFor_10 rfl ?_
      refine r_getA (j := 0) fl_Row_9 hw (by decide) d_Row_wishFor_11 ?_
      refine g_iload_n d_Row_wishFor_14 rfl ?_
      refine r_ald1 (j := i) hw (nI_hi (by omega)) (by omega) d_Row_wishFor_15 ?_
      rw [hq2.1]
      refine g_iload_n d_Row_wishFor_16 rfl ?_
      refine g_icmp_ne (tgt := 22) d_Row_wishFor_17 (by decide) (fun c_17 => ?_) (fun c_17 => ?_)
      rotate_left
      · exact absurd c_17 (nI_ne hne (by omega) (by omega))
      have e1 : nI i + Int32.ofInt 1 = nI (i + 1) := nI_1 i
      refine g_iinc (v := nI (i + 1)) d_Row_wishFor_22 rfl e1 (by decide) rfl ?_
      refine g_goto (tgt := 2) d_Row_wishFor_25 (by decide) ?_
      exact ih (i + 1) (by omega) (by omega)
    · refine g_iload_n d_Row_wishFor_2 rfl ?_
      refine g_aload_n d_Row_wishFor_3 rfl ?_
      refine r_getF (j := 4) fl_Row_34 hw (by decide) d_Row_wishFor_4 ?_
      rw [hx.2.1]
      refine g_icmp_ge (tgt := 28) d_Row_wishFor_7 (by decide) (fun c_7 => ?_) (fun c_7 => ?_)
      rotate_left
      · exact absurd c_7 (ilt (by omega) (by omega) (by omega))
      refine g_iconst (v := (-1)) d_Row_wishFor_28 (by decide) ?_
      refine g_iret rfl d_Row_wishFor_29 ?_
      exact ⟨rfl, rfl⟩
set_option maxHeartbeats 400000 in
set_option maxRecDepth 100000 in
theorem m_R_wishNone (hw : rowW u a b) {ow p : Nat} {ws : List (Nat × Nat)} {bd : Nat → Option Nat} (hx : hX x ow ws bd) (hl : ws.length ≤ 24) (hb : ∀ q ∈ ws, q.1 < 2 ^ 31) (hp : p < 2 ^ 31) (hn : ∀ q ∈ ws, q.1 ≠ p) : GM E Y_Row_wishFor d [.ref b, .int (nI p)] (yW E G a c (uR u b x) n sl) (rIs (some (.int (-1))) (yW E G a c (uR u b x) n sl)) := by
  refine g_entry (by decide) (by simp [Value.category]) (Nat.le_of_ble_eq_true rfl) ?_
  refine g_iconst (v := 0) d_Row_wishFor_0 (by decide) ?_
  refine g_istore_n d_Row_wishFor_1 (by decide) rfl ?_
  have K := m_R_wf0 (E := E) (d := d) (G := G) (G0 := yW E G a c (uR u b x) n sl) (c := c) (n := n) (sl := sl) hw hx hl hb hp hn (ws.length + 1) 0 (by omega) (by omega)
  rw [show nI 0 = 0 from rfl] at K
  exact K
set_option maxHeartbeats 400000 in
set_option maxRecDepth 100000 in
theorem m_R_wf1 (hw : rowW u a b) {l r : List (Nat × Nat)} {t : Nat} {ow p : Nat} {bd : Nat → Option Nat} (hx : hX x ow (l ++ (p, t) :: r) bd) (hl : (l ++ (p, t) :: r).length ≤ 24) (hb : ∀ q ∈ (l ++ (p, t) :: r), q.1 < 2 ^ 31) (hp : p < 2 ^ 31) (hn : ∀ q ∈ l, q.1 ≠ p) : ∀ (m i : Nat), l.length < i + m → i ≤ l.length → GT E Y_Row_wishFor d G0 2 [(0, .ref b), (1, .int (nI p)), (2, .int (nI i))] [] (yW E G a c (uR u b x) n sl) (rIs (some (.int (nI l.length))) (yW E G a c (uR u b x) n sl)) := by
  have hlen : (l ++ (p, t) :: r).length = l.length + r.length + 1 := by simp; omega
  intro m
  induction m with
  | zero => intro i h1 h2; omega
  | succ m ih =>
    intro i h1 h2
    by_cases hi : i < l.length
    · obtain ⟨q, hq⟩ : ∃ q, l[i]? = some q := ⟨_, List.getElem?_eq_getElem hi⟩
      have hq3 : (l ++ (p, t) :: r)[i]? = some q := by rw [List.getElem?_append_left hi]; exact hq
      have hq2 := hx.2.2.1 i q hq3
      have hqb := hb q (List.mem_of_getElem? hq3)
      have hne := hn q (List.mem_of_getElem? hq)
      refine g_iload_n d_Row_wishFor_2 rfl ?_
      refine g_aload_n d_Row_wishFor_3 rfl ?_
      refine r_getF (j := 4) fl_Row_34 hw (by decide) d_Row_wishFor_4 ?_
      rw [hx.2.1]
      refine g_icmp_ge (tgt := 28) d_Row_wishFor_7 (by decide) (fun c_7 => ?_) (fun c_7 => ?_)
      · exact absurd c_7 (ige (by omega) (by omega) (by omega))
      refine g_aload_n d_Row_wishFor_10 rfl ?_
      refine r_getA (j := 0) fl_Row_9 hw (by decide) d_Row_wishFor_11 ?_
      refine g_iload_n d_Row_wishFor_14 rfl ?_
      refine r_ald1 (j := i) hw (nI_hi (by omega)) (by omega) d_Row_wishFor_15 ?_
      rw [hq2.1]
      refine g_iload_n d_Row_wishFor_16 rfl ?_
      refine g_icmp_ne (tgt := 22) d_Row_wishFor_17 (by decide) (fun c_17 => ?_) (fun c_17 => ?_)
      rotate_left
      · exact absurd c_17 (nI_ne hne (by omega) (by omega))
      have e1 : nI i + Int32.ofInt 1 = nI (i + 1) := nI_1 i
      refine g_iinc (v := nI (i + 1)) d_Row_wishFor_22 rfl e1 (by decide) rfl ?_
      refine g_goto (tgt := 2) d_Row_wishFor_25 (by decide) ?_
      exact ih (i + 1) (by omega) (by omega)
    · have ei : i = l.length := by omega
      subst ei
      have hq2 := hx.2.2.1 _ _ (mid_at (l := l) (r := r) (x := (p, t)))
      refine g_iload_n d_Row_wishFor_2 rfl ?_
      refine g_aload_n d_Row_wishFor_3 rfl ?_
      refine r_getF (j := 4) fl_Row_34 hw (by decide) d_Row_wishFor_4 ?_
      rw [hx.2.1]
      refine g_icmp_ge (tgt := 28) d_Row_wishFor_7 (by decide) (fun c_7 => ?_) (fun c_7 => ?_)
      · exact absurd c_7 (ige (by omega) (by omega) (by omega))
      refine g_aload_n d_Row_wishFor_10 rfl ?_
      refine r_getA (j := 0) fl_Row_9 hw (by decide) d_Row_wishFor_11 ?_
      refine g_iload_n d_Row_wishFor_14 rfl ?_
      refine r_ald1 (j := l.length) hw (nI_hi (by omega)) (by omega) d_Row_wishFor_15 ?_
      rw [hq2.1]
      refine g_iload_n d_Row_wishFor_16 rfl ?_
      refine g_icmp_ne (tgt := 22) d_Row_wishFor_17 (by decide) (fun c_17 => ?_) (fun c_17 => ?_)
      · exact absurd c_17 (fun e => e rfl)
      refine g_iload_n d_Row_wishFor_20 rfl ?_
      refine g_iret rfl d_Row_wishFor_21 ?_
      exact ⟨rfl, rfl⟩
set_option maxHeartbeats 400000 in
set_option maxRecDepth 100000 in
theorem m_R_wishSome (hw : rowW u a b) {l r : List (Nat × Nat)} {t : Nat} {ow p : Nat} {bd : Nat → Option Nat} (hx : hX x ow (l ++ (p, t) :: r) bd) (hl : (l ++ (p, t) :: r).length ≤ 24) (hb : ∀ q ∈ (l ++ (p, t) :: r), q.1 < 2 ^ 31) (hp : p < 2 ^ 31) (hn : ∀ q ∈ l, q.1 ≠ p) : GM E Y_Row_wishFor d [.ref b, .int (nI p)] (yW E G a c (uR u b x) n sl) (rIs (some (.int (nI l.length))) (yW E G a c (uR u b x) n sl)) := by
  refine g_entry (by decide) (by simp [Value.category]) (Nat.le_of_ble_eq_true rfl) ?_
  refine g_iconst (v := 0) d_Row_wishFor_0 (by decide) ?_
  refine g_istore_n d_Row_wishFor_1 (by decide) rfl ?_
  have K := m_R_wf1 (E := E) (d := d) (G := G) (G0 := yW E G a c (uR u b x) n sl) (c := c) (n := n) (sl := sl) hw hx hl hb hp hn (l.length + 1) 0 (by omega) (by omega)
  rw [show nI 0 = 0 from rfl] at K
  exact K
/-- name k is one of the set -/
def bB (nm : Int32) (k : Nat) : Prop := (nm >>> (nI k &&& 31)) &&& 1 = 1
/-- the names of a set get a place -/
def bdN (bd : Nat → Option Nat) (nm : Int32) (p : Nat) : Nat → Option Nat := fun k => if (nm >>> (nI k &&& 31)) &&& 1 = 1 then some p else bd k
/-- the first i names are bound -/
def bn1 (x x0 : xS) (nm : Int32) (p i : Nat) : Prop := x.1 = x0.1 ∧ x.2.1 = x0.2.1 ∧ x.2.2.1 = x0.2.2.1 ∧ ∀ k, k < 8 → x.2.2.2 k = if k < i ∧ (nm >>> (nI k &&& 31)) &&& 1 = 1 then nI p else x0.2.2.2 k
theorem bn1_y {nm : Int32} {p i : Nat} (h : bn1 x x0 nm p i) (hb : (nm >>> (nI i &&& 31)) &&& 1 = 1) : bn1 (xN x i (nI p)) x0 nm p (i + 1) := by
  refine ⟨h.1, h.2.1, h.2.2.1, fun k hk => ?_⟩
  show upd x.2.2.2 i (nI p) k = _
  by_cases e : k = i
  · subst e
    rw [up_at, if_pos ⟨by omega, hb⟩]
  · rw [up_ne e, h.2.2.2 k hk]
    by_cases e2 : k < i ∧ (nm >>> (nI k &&& 31)) &&& 1 = 1
    · rw [if_pos e2, if_pos ⟨by omega, e2.2⟩]
    · rw [if_neg e2, if_neg (fun z => e2 ⟨by omega, z.2⟩)]
theorem bn1_n {nm : Int32} {p i : Nat} (h : bn1 x x0 nm p i) (hb : ¬ (nm >>> (nI i &&& 31)) &&& 1 = 1) : bn1 x x0 nm p (i + 1) := by
  refine ⟨h.1, h.2.1, h.2.2.1, fun k hk => ?_⟩
  rw [h.2.2.2 k hk]
  by_cases e : k = i
  · subst e
    rw [if_neg (fun z => by omega), if_neg (fun z => hb z.2)]
  · by_cases e2 : k < i ∧ (nm >>> (nI k &&& 31)) &&& 1 = 1
    · rw [if_pos e2, if_pos ⟨by omega, e2.2⟩]
    · rw [if_neg e2, if_neg (fun z => e2 ⟨by omega, z.2⟩)]
set_option maxHeartbeats 400000 in
set_option maxRecDepth 100000 in
theorem m_R_bn (hw : rowW u a b) {nm : Int32} {p : Nat} : ∀ (m i : Nat) (x : xS), 8 < i + m → i ≤ 8 → bn1 x x0 nm p i → (∀ x', bn1 x' x0 nm p 8 → Q (.inl none) (yW E G a c (uR u b x') n sl)) → GT E Y_Row_bindNames d G0 2 [(0, .ref b), (1, .int nm), (2, .int (nI p)), (3, .int (nI i))] [] (yW E G a c (uR u b x) n sl) Q := by
  intro m
  induction m with
  | zero => intro i x h1 h2; omega
  | succ m ih =>
    intro i x h1 h2 hb kk
    by_cases hi : i < 8
    · refine g_iload_n d_Row_bindNames_2 rfl ?_
      refine g_bipush (v := 8) d_Row_bindNames_3 (by decide) ?_
      refine g_icmp_ge (tgt := 30) d_Row_bindNames_5 (by decide) (fun c_5 => ?_) (fun c_5 => ?_)
      · exact absurd c_5 (ige (m := 8) (by omega) (by omega) hi)
      refine g_iload_n d_Row_bindNames_8 rfl ?_
      refine g_iload_n d_Row_bindNames_9 rfl ?_
      refine g_ishr d_Row_bindNames_10 ?_
      refine g_iconst (v := 1) d_Row_bindNames_11 (by decide) ?_
      refine g_iand d_Row_bindNames_12 ?_
      refine g_iconst (v := 1) d_Row_bindNames_13 (by decide) ?_
      refine g_icmp_ne (tgt := 24) d_Row_bindNames_14 (by decide) (fun c_14 => ?_) (fun c_14 => ?_)
      · have e1 : nI i + Int32.ofInt 1 = nI (i + 1) := nI_1 i
        refine g_iinc (v := nI (i + 1)) d_Row_bindNames_24 rfl e1 (by decide) rfl ?_
        refine g_goto (tgt := 2) d_Row_bindNames_27 (by decide) ?_
        exact ih (i + 1) _ (by omega) (by omega) (bn1_n hb c_14) kk
      · refine g_aload_n d_Row_bindNames_17 rfl ?_
        refine r_getA (j := 2) fl_Row_21 hw (by decide) d_Row_bindNames_18 ?_
        refine g_iload_n d_Row_bindNames_21 rfl ?_
        refine g_iload_n d_Row_bindNames_22 rfl ?_
        refine r_ast3 (j := i) (v := nI p) hw (nI_hi (by omega)) (by omega) d_Row_bindNames_23 ?_
        have e1 : nI i + Int32.ofInt 1 = nI (i + 1) := nI_1 i
        refine g_iinc (v := nI (i + 1)) d_Row_bindNames_24 rfl e1 (by decide) rfl ?_
        refine g_goto (tgt := 2) d_Row_bindNames_27 (by decide) ?_
        exact ih (i + 1) _ (by omega) (by omega) (bn1_y hb c_14) kk
    · refine g_iload_n d_Row_bindNames_2 rfl ?_
      refine g_bipush (v := 8) d_Row_bindNames_3 (by decide) ?_
      refine g_icmp_ge (tgt := 30) d_Row_bindNames_5 (by decide) (fun c_5 => ?_) (fun c_5 => ?_)
      rotate_left
      · exact absurd c_5 (ilt (m := 8) (by omega) (by omega) (by omega))
      refine g_vret rfl d_Row_bindNames_30 ?_
      have e : i = 8 := by omega
      subst e
      exact kk x hb
set_option maxHeartbeats 400000 in
set_option maxRecDepth 100000 in
theorem m_R_bindNames (hw : rowW u a b) {nm : Int32} {p ow : Nat} {ws : List (Nat × Nat)} {bd : Nat → Option Nat} (hx : hX x ow ws bd) : GM E Y_Row_bindNames d [.ref b, .int nm, .int (nI p)] (yW E G a c (uR u b x) n sl) (rPost none (fun G' => ∃ x', G' = yW E G a c (uR u b x') n sl ∧ hX x' ow ws (bdN bd nm p))) := by
  refine g_entry (by decide) (by simp [Value.category]) (Nat.le_of_ble_eq_true rfl) ?_
  refine g_iconst (v := 0) d_Row_bindNames_0 (by decide) ?_
  refine g_istore_n d_Row_bindNames_1 (by decide) rfl ?_
  have K := m_R_bn (E := E) (d := d) (G := G) (G0 := yW E G a c (uR u b x) n sl) (c := c) (n := n) (sl := sl) (x0 := x) (nm := nm) (p := p) (Q := rPost none (fun G' => ∃ x', G' = yW E G a c (uR u b x') n sl ∧ hX x' ow ws (bdN bd nm p))) hw 9 0 x (by omega) (by omega) ⟨rfl, rfl, rfl, fun k hk => by rw [if_neg (fun z => by omega)]⟩ (fun x' hx' => ⟨rfl, x', rfl, ?_⟩)
  · rw [show nI 0 = 0 from rfl] at K
    exact K
  obtain ⟨e1, e2, e3, e4⟩ := hx'
  refine ⟨by rw [e1]; exact hx.1, by rw [e1]; exact hx.2.1, fun k q hk => by rw [e2, e3]; exact hx.2.2.1 k q hk, fun k hk => ?_⟩
  rw [e4 k hk]
  unfold bdN
  by_cases e : (nm >>> (nI k &&& 31)) &&& 1 = 1
  · rw [if_pos ⟨hk, e⟩, if_pos e]
    rfl
  · rw [if_neg (fun z => e z.2), if_neg e]
    exact hx.2.2.2 k hk
set_option maxHeartbeats 400000 in
set_option maxRecDepth 100000 in
theorem m_R_choose (hw : rowW u a b) {l r : List (Nat × Nat)} {p t t' w ow : Nat} {bd : Nat → Option Nat} (hx : hX x ow (l ++ (p, t) :: r) bd) (hl : (l ++ (p, t) :: r).length ≤ 24) (ht : zIs u a t 7) (hz : zIs u a (t + 1) 8) (hw8 : w < 8) (hwl : w < u.2.1 (t + 1)) (hT : (uR u b x).2.2.2 (t + 1) w = some t') (ht' : zIs u a t' 7) : GM E Y_Row_choose d [.ref b, .int (nI l.length), .int (nI w)] (yW E G a c (uR u b x) n sl) (rPost none (fun G' => ∃ x', G' = yW E G a c (uR u b x') n sl ∧ hX x' ow (l ++ (p, t') :: r) bd)) := by
  refine g_entry (by decide) (by simp [Value.category]) (Nat.le_of_ble_eq_true rfl) ?_
  have hlen : (l ++ (p, t) :: r).length = l.length + r.length + 1 := by simp; omega
  refine g_aload_n d_Row_choose_0 rfl ?_
  refine r_getA (j := 1) fl_Row_17 hw (by decide) d_Row_choose_1 ?_
  refine g_iload_n d_Row_choose_4 rfl ?_
  refine g_aload_n d_Row_choose_5 rfl ?_
  refine r_getA (j := 1) fl_Row_17 hw (by decide) d_Row_choose_6 ?_
  refine g_iload_n d_Row_choose_9 rfl ?_
  refine r_tald (j := l.length) hw (nI_hi (by omega)) (by omega) (hx.2.2.1 _ _ (mid_at (l := l) (r := r) (x := (p, t)))).2 d_Row_choose_10 ?_
  refine z_get (k := 7) (j := 3) (v := .ref (t + 1)) kc_Term fl_Row_50 (by decide) ht (by decide) rfl rfl d_Row_choose_11 ?_
  refine g_iload_n d_Row_choose_14 rfl ?_
  refine z_tald (k := 8) (j := w) hz (by decide) rfl (nI_hi (by omega)) hwl hT d_Row_choose_15 ?_
  refine r_tast (j := l.length) hw (nI_hi (by omega)) (by omega) ht' d_Row_choose_16 ?_
  refine g_vret rfl d_Row_choose_17 ?_
  refine ⟨rfl, _, rfl, hx.1, ?_, fun k q hk => ?_, hx.2.2.2⟩
  · show x.1 4 = _
    rw [hx.2.1]
    simp
  · rcases mid_get (x := (p, t)) hk with ⟨rfl, rfl⟩ | ⟨hne, hk'⟩
    · refine ⟨(hx.2.2.1 _ _ (mid_at (l := l) (r := r) (x := (p, t)))).1, ?_⟩
      show va_up x.2.2.1 l.length (some t') l.length = _
      exact if_pos rfl
    · have e2 := hx.2.2.1 k q hk'
      refine ⟨e2.1, ?_⟩
      show va_up x.2.2.1 l.length (some t') k = _
      rw [va_up, if_neg hne]
      exact e2.2
end AO

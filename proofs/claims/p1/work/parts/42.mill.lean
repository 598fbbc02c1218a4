/-! MatchMill: type, and what the others do where nothing has been made -/
theorem d_Mill_type_0 : decode Y_Mill_type.2.1 0 = .ok (.aload_n 0, 1) := by decide +kernel
theorem d_Mill_type_1 : decode Y_Mill_type.2.1 1 = .ok (.getfield 15, 3) := by decide +kernel
theorem d_Mill_type_4 : decode Y_Mill_type.2.1 4 = .ok (.iload_n 1, 1) := by decide +kernel
theorem d_Mill_type_5 : decode Y_Mill_type.2.1 5 = .ok (.invokevirtual 49, 3) := by decide +kernel
theorem d_Mill_type_8 : decode Y_Mill_type.2.1 8 = .ok (.ifCond .eq 13, 3) := by decide +kernel
theorem d_Mill_type_11 : decode Y_Mill_type.2.1 11 = .ok (.iload_n 2, 1) := by decide +kernel
theorem d_Mill_type_12 : decode Y_Mill_type.2.1 12 = .ok (.ifCond .lt 9, 3) := by decide +kernel
theorem d_Mill_type_15 : decode Y_Mill_type.2.1 15 = .ok (.iload_n 2, 1) := by decide +kernel
theorem d_Mill_type_16 : decode Y_Mill_type.2.1 16 = .ok (.bipush 8, 2) := by decide +kernel
theorem d_Mill_type_18 : decode Y_Mill_type.2.1 18 = .ok (.if_icmp .le 11, 3) := by decide +kernel
theorem d_Mill_type_21 : decode Y_Mill_type.2.1 21 = .ok (.new 53, 3) := by decide +kernel
theorem d_Mill_type_24 : decode Y_Mill_type.2.1 24 = .ok (.dup, 1) := by decide +kernel
theorem d_Mill_type_25 : decode Y_Mill_type.2.1 25 = .ok (.invokespecial 55, 3) := by decide +kernel
theorem d_Mill_type_28 : decode Y_Mill_type.2.1 28 = .ok (.athrow, 1) := by decide +kernel
theorem d_Mill_type_29 : decode Y_Mill_type.2.1 29 = .ok (.aload_n 0, 1) := by decide +kernel
theorem d_Mill_type_30 : decode Y_Mill_type.2.1 30 = .ok (.getfield 56, 3) := by decide +kernel
theorem d_Mill_type_33 : decode Y_Mill_type.2.1 33 = .ok (.ifCond .ne 14, 3) := by decide +kernel
theorem d_Mill_type_36 : decode Y_Mill_type.2.1 36 = .ok (.aload_n 0, 1) := by decide +kernel
theorem d_Mill_type_37 : decode Y_Mill_type.2.1 37 = .ok (.getfield 15, 3) := by decide +kernel
theorem d_Mill_type_40 : decode Y_Mill_type.2.1 40 = .ok (.iload_n 1, 1) := by decide +kernel
theorem d_Mill_type_41 : decode Y_Mill_type.2.1 41 = .ok (.invokevirtual 60, 3) := by decide +kernel
theorem d_Mill_type_44 : decode Y_Mill_type.2.1 44 = .ok (.ifCond .eq 11, 3) := by decide +kernel
theorem d_Mill_type_47 : decode Y_Mill_type.2.1 47 = .ok (.new 63, 3) := by decide +kernel
theorem d_Mill_type_50 : decode Y_Mill_type.2.1 50 = .ok (.dup, 1) := by decide +kernel
theorem d_Mill_type_51 : decode Y_Mill_type.2.1 51 = .ok (.invokespecial 65, 3) := by decide +kernel
theorem d_Mill_type_54 : decode Y_Mill_type.2.1 54 = .ok (.athrow, 1) := by decide +kernel
theorem d_Mill_type_55 : decode Y_Mill_type.2.1 55 = .ok (.aload_n 0, 1) := by decide +kernel
theorem d_Mill_type_56 : decode Y_Mill_type.2.1 56 = .ok (.getfield 15, 3) := by decide +kernel
theorem d_Mill_type_59 : decode Y_Mill_type.2.1 59 = .ok (.iload_n 1, 1) := by decide +kernel
theorem d_Mill_type_60 : decode Y_Mill_type.2.1 60 = .ok (.iload_n 2, 1) := by decide +kernel
theorem d_Mill_type_61 : decode Y_Mill_type.2.1 61 = .ok (.invokevirtual 66, 3) := by decide +kernel
theorem d_Mill_type_64 : decode Y_Mill_type.2.1 64 = .ok (.return_, 1) := by decide +kernel
theorem d_Mill_argument_0 : decode Y_Mill_argument.2.1 0 = .ok (.aload_n 0, 1) := by decide +kernel
theorem d_Mill_argument_1 : decode Y_Mill_argument.2.1 1 = .ok (.getfield 15, 3) := by decide +kernel
theorem d_Mill_argument_4 : decode Y_Mill_argument.2.1 4 = .ok (.iload_n 1, 1) := by decide +kernel
theorem d_Mill_argument_5 : decode Y_Mill_argument.2.1 5 = .ok (.iload_n 2, 1) := by decide +kernel
theorem d_Mill_argument_6 : decode Y_Mill_argument.2.1 6 = .ok (.invokevirtual 70, 3) := by decide +kernel
theorem d_Mill_argument_9 : decode Y_Mill_argument.2.1 9 = .ok (.ifCond .eq 14, 3) := by decide +kernel
theorem d_Mill_argument_12 : decode Y_Mill_argument.2.1 12 = .ok (.aload_n 0, 1) := by decide +kernel
theorem d_Mill_argument_13 : decode Y_Mill_argument.2.1 13 = .ok (.getfield 15, 3) := by decide +kernel
theorem d_Mill_argument_16 : decode Y_Mill_argument.2.1 16 = .ok (.iload_n 3, 1) := by decide +kernel
theorem d_Mill_argument_17 : decode Y_Mill_argument.2.1 17 = .ok (.invokevirtual 49, 3) := by decide +kernel
theorem d_Mill_argument_20 : decode Y_Mill_argument.2.1 20 = .ok (.ifCond .ne 11, 3) := by decide +kernel
theorem d_Mill_argument_23 : decode Y_Mill_argument.2.1 23 = .ok (.new 53, 3) := by decide +kernel
theorem d_Mill_argument_26 : decode Y_Mill_argument.2.1 26 = .ok (.dup, 1) := by decide +kernel
theorem d_Mill_argument_27 : decode Y_Mill_argument.2.1 27 = .ok (.invokespecial 55, 3) := by decide +kernel
theorem d_Mill_argument_30 : decode Y_Mill_argument.2.1 30 = .ok (.athrow, 1) := by decide +kernel
theorem d_Mill_argument_31 : decode Y_Mill_argument.2.1 31 = .ok (.aload_n 0, 1) := by decide +kernel
theorem d_Mill_argument_32 : decode Y_Mill_argument.2.1 32 = .ok (.getfield 56, 3) := by decide +kernel
theorem d_Mill_argument_35 : decode Y_Mill_argument.2.1 35 = .ok (.ifCond .ne 16, 3) := by decide +kernel
theorem d_Mill_argument_38 : decode Y_Mill_argument.2.1 38 = .ok (.aload_n 0, 1) := by decide +kernel
theorem d_Mill_argument_39 : decode Y_Mill_argument.2.1 39 = .ok (.getfield 15, 3) := by decide +kernel
theorem d_Mill_argument_42 : decode Y_Mill_argument.2.1 42 = .ok (.iload_n 1, 1) := by decide +kernel
theorem d_Mill_argument_43 : decode Y_Mill_argument.2.1 43 = .ok (.iload_n 2, 1) := by decide +kernel
theorem d_Mill_argument_44 : decode Y_Mill_argument.2.1 44 = .ok (.invokevirtual 74, 3) := by decide +kernel
theorem d_Mill_argument_47 : decode Y_Mill_argument.2.1 47 = .ok (.iconst 4, 1) := by decide +kernel
theorem d_Mill_argument_48 : decode Y_Mill_argument.2.1 48 = .ok (.if_icmp .lt 11, 3) := by decide +kernel
theorem d_Mill_argument_51 : decode Y_Mill_argument.2.1 51 = .ok (.new 63, 3) := by decide +kernel
theorem d_Mill_argument_54 : decode Y_Mill_argument.2.1 54 = .ok (.dup, 1) := by decide +kernel
theorem d_Mill_argument_55 : decode Y_Mill_argument.2.1 55 = .ok (.invokespecial 65, 3) := by decide +kernel
theorem d_Mill_argument_58 : decode Y_Mill_argument.2.1 58 = .ok (.athrow, 1) := by decide +kernel
theorem d_Mill_argument_59 : decode Y_Mill_argument.2.1 59 = .ok (.aload_n 0, 1) := by decide +kernel
theorem d_Mill_argument_60 : decode Y_Mill_argument.2.1 60 = .ok (.getfield 15, 3) := by decide +kernel
theorem d_Mill_argument_63 : decode Y_Mill_argument.2.1 63 = .ok (.iload_n 1, 1) := by decide +kernel
theorem d_Mill_argument_64 : decode Y_Mill_argument.2.1 64 = .ok (.iload_n 2, 1) := by decide +kernel
theorem d_Mill_argument_65 : decode Y_Mill_argument.2.1 65 = .ok (.iload_n 3, 1) := by decide +kernel
theorem d_Mill_argument_66 : decode Y_Mill_argument.2.1 66 = .ok (.invokevirtual 78, 3) := by decide +kernel
theorem d_Mill_argument_69 : decode Y_Mill_argument.2.1 69 = .ok (.ireturn, 1) := by decide +kernel
theorem d_Mill_any_0 : decode Y_Mill_any.2.1 0 = .ok (.aload_n 0, 1) := by decide +kernel
theorem d_Mill_any_1 : decode Y_Mill_any.2.1 1 = .ok (.getfield 15, 3) := by decide +kernel
theorem d_Mill_any_4 : decode Y_Mill_any.2.1 4 = .ok (.iload_n 1, 1) := by decide +kernel
theorem d_Mill_any_5 : decode Y_Mill_any.2.1 5 = .ok (.invokevirtual 60, 3) := by decide +kernel
theorem d_Mill_any_8 : decode Y_Mill_any.2.1 8 = .ok (.ifCond .ne 11, 3) := by decide +kernel
theorem d_Mill_any_11 : decode Y_Mill_any.2.1 11 = .ok (.new 53, 3) := by decide +kernel
theorem d_Mill_any_14 : decode Y_Mill_any.2.1 14 = .ok (.dup, 1) := by decide +kernel
theorem d_Mill_any_15 : decode Y_Mill_any.2.1 15 = .ok (.invokespecial 55, 3) := by decide +kernel
theorem d_Mill_any_18 : decode Y_Mill_any.2.1 18 = .ok (.athrow, 1) := by decide +kernel
theorem d_Mill_any_19 : decode Y_Mill_any.2.1 19 = .ok (.aload_n 0, 1) := by decide +kernel
theorem d_Mill_any_20 : decode Y_Mill_any.2.1 20 = .ok (.aload_n 0, 1) := by decide +kernel
theorem d_Mill_any_21 : decode Y_Mill_any.2.1 21 = .ok (.getfield 26, 3) := by decide +kernel
theorem d_Mill_any_24 : decode Y_Mill_any.2.1 24 = .ok (.new 82, 3) := by decide +kernel
theorem d_Mill_any_27 : decode Y_Mill_any.2.1 27 = .ok (.dup, 1) := by decide +kernel
theorem d_Mill_any_28 : decode Y_Mill_any.2.1 28 = .ok (.iload_n 1, 1) := by decide +kernel
theorem d_Mill_any_29 : decode Y_Mill_any.2.1 29 = .ok (.iconst 2, 1) := by decide +kernel
theorem d_Mill_any_30 : decode Y_Mill_any.2.1 30 = .ok (.iconst 0, 1) := by decide +kernel
theorem d_Mill_any_31 : decode Y_Mill_any.2.1 31 = .ok (.iconst 0, 1) := by decide +kernel
theorem d_Mill_any_32 : decode Y_Mill_any.2.1 32 = .ok (.anewarray 82, 3) := by decide +kernel
theorem d_Mill_any_35 : decode Y_Mill_any.2.1 35 = .ok (.invokespecial 84, 3) := by decide +kernel
theorem d_Mill_any_38 : decode Y_Mill_any.2.1 38 = .ok (.invokevirtual 87, 3) := by decide +kernel
theorem d_Mill_any_41 : decode Y_Mill_any.2.1 41 = .ok (.ireturn, 1) := by decide +kernel
theorem d_Mill_number_0 : decode Y_Mill_number.2.1 0 = .ok (.aload_n 0, 1) := by decide +kernel
theorem d_Mill_number_1 : decode Y_Mill_number.2.1 1 = .ok (.getfield 15, 3) := by decide +kernel
theorem d_Mill_number_4 : decode Y_Mill_number.2.1 4 = .ok (.iload_n 1, 1) := by decide +kernel
theorem d_Mill_number_5 : decode Y_Mill_number.2.1 5 = .ok (.invokevirtual 91, 3) := by decide +kernel
theorem d_Mill_number_8 : decode Y_Mill_number.2.1 8 = .ok (.ifCond .ne 11, 3) := by decide +kernel
theorem d_Mill_number_11 : decode Y_Mill_number.2.1 11 = .ok (.new 53, 3) := by decide +kernel
theorem d_Mill_number_14 : decode Y_Mill_number.2.1 14 = .ok (.dup, 1) := by decide +kernel
theorem d_Mill_number_15 : decode Y_Mill_number.2.1 15 = .ok (.invokespecial 55, 3) := by decide +kernel
theorem d_Mill_number_18 : decode Y_Mill_number.2.1 18 = .ok (.athrow, 1) := by decide +kernel
theorem d_Mill_number_19 : decode Y_Mill_number.2.1 19 = .ok (.aload_n 0, 1) := by decide +kernel
theorem d_Mill_number_20 : decode Y_Mill_number.2.1 20 = .ok (.aload_n 0, 1) := by decide +kernel
theorem d_Mill_number_21 : decode Y_Mill_number.2.1 21 = .ok (.iload_n 3, 1) := by decide +kernel
theorem d_Mill_number_22 : decode Y_Mill_number.2.1 22 = .ok (.invokevirtual 94, 3) := by decide +kernel
theorem d_Mill_number_25 : decode Y_Mill_number.2.1 25 = .ok (.new 82, 3) := by decide +kernel
theorem d_Mill_number_28 : decode Y_Mill_number.2.1 28 = .ok (.dup, 1) := by decide +kernel
theorem d_Mill_number_29 : decode Y_Mill_number.2.1 29 = .ok (.iload_n 1, 1) := by decide +kernel
theorem d_Mill_number_30 : decode Y_Mill_number.2.1 30 = .ok (.iconst 0, 1) := by decide +kernel
theorem d_Mill_number_31 : decode Y_Mill_number.2.1 31 = .ok (.iload_n 2, 1) := by decide +kernel
theorem d_Mill_number_32 : decode Y_Mill_number.2.1 32 = .ok (.iconst 0, 1) := by decide +kernel
theorem d_Mill_number_33 : decode Y_Mill_number.2.1 33 = .ok (.anewarray 82, 3) := by decide +kernel
theorem d_Mill_number_36 : decode Y_Mill_number.2.1 36 = .ok (.invokespecial 84, 3) := by decide +kernel
theorem d_Mill_number_39 : decode Y_Mill_number.2.1 39 = .ok (.invokevirtual 87, 3) := by decide +kernel
theorem d_Mill_number_42 : decode Y_Mill_number.2.1 42 = .ok (.ireturn, 1) := by decide +kernel
theorem d_Mill_make_0 : decode Y_Mill_make.2.1 0 = .ok (.aload_n 0, 1) := by decide +kernel
theorem d_Mill_make_1 : decode Y_Mill_make.2.1 1 = .ok (.getfield 15, 3) := by decide +kernel
theorem d_Mill_make_4 : decode Y_Mill_make.2.1 4 = .ok (.iload_n 1, 1) := by decide +kernel
theorem d_Mill_make_5 : decode Y_Mill_make.2.1 5 = .ok (.iload_n 2, 1) := by decide +kernel
theorem d_Mill_make_6 : decode Y_Mill_make.2.1 6 = .ok (.invokevirtual 70, 3) := by decide +kernel
theorem d_Mill_make_9 : decode Y_Mill_make.2.1 9 = .ok (.ifCond .ne 11, 3) := by decide +kernel
theorem d_Mill_make_12 : decode Y_Mill_make.2.1 12 = .ok (.new 53, 3) := by decide +kernel
theorem d_Mill_make_15 : decode Y_Mill_make.2.1 15 = .ok (.dup, 1) := by decide +kernel
theorem d_Mill_make_16 : decode Y_Mill_make.2.1 16 = .ok (.invokespecial 55, 3) := by decide +kernel
theorem d_Mill_make_19 : decode Y_Mill_make.2.1 19 = .ok (.athrow, 1) := by decide +kernel
theorem d_Mill_make_20 : decode Y_Mill_make.2.1 20 = .ok (.aload_n 0, 1) := by decide +kernel
theorem d_Mill_make_21 : decode Y_Mill_make.2.1 21 = .ok (.iload_n 3, 1) := by decide +kernel
theorem d_Mill_make_22 : decode Y_Mill_make.2.1 22 = .ok (.invokevirtual 94, 3) := by decide +kernel
theorem d_Mill_make_25 : decode Y_Mill_make.2.1 25 = .ok (.astore 4, 2) := by decide +kernel
theorem d_Mill_make_27 : decode Y_Mill_make.2.1 27 = .ok (.iload_n 3, 1) := by decide +kernel
theorem d_Mill_make_28 : decode Y_Mill_make.2.1 28 = .ok (.ifCond .eq 8, 3) := by decide +kernel
theorem d_Mill_make_31 : decode Y_Mill_make.2.1 31 = .ok (.bipush 60, 2) := by decide +kernel
theorem d_Mill_make_33 : decode Y_Mill_make.2.1 33 = .ok (.goto 5, 3) := by decide +kernel
theorem d_Mill_make_36 : decode Y_Mill_make.2.1 36 = .ok (.bipush 24, 2) := by decide +kernel
theorem d_Mill_make_38 : decode Y_Mill_make.2.1 38 = .ok (.istore 5, 2) := by decide +kernel
theorem d_Mill_make_40 : decode Y_Mill_make.2.1 40 = .ok (.aload_n 0, 1) := by decide +kernel
theorem d_Mill_make_41 : decode Y_Mill_make.2.1 41 = .ok (.getfield 15, 3) := by decide +kernel
theorem d_Mill_make_44 : decode Y_Mill_make.2.1 44 = .ok (.iload_n 1, 1) := by decide +kernel
theorem d_Mill_make_45 : decode Y_Mill_make.2.1 45 = .ok (.iload_n 2, 1) := by decide +kernel
theorem d_Mill_make_46 : decode Y_Mill_make.2.1 46 = .ok (.invokevirtual 74, 3) := by decide +kernel
theorem d_Mill_make_49 : decode Y_Mill_make.2.1 49 = .ok (.istore 6, 2) := by decide +kernel
theorem d_Mill_make_51 : decode Y_Mill_make.2.1 51 = .ok (.aload_n 0, 1) := by decide +kernel
theorem d_Mill_make_52 : decode Y_Mill_make.2.1 52 = .ok (.getfield 15, 3) := by decide +kernel
theorem d_Mill_make_55 : decode Y_Mill_make.2.1 55 = .ok (.iload_n 1, 1) := by decide +kernel
theorem d_Mill_make_56 : decode Y_Mill_make.2.1 56 = .ok (.iload_n 2, 1) := by decide +kernel
theorem d_Mill_make_57 : decode Y_Mill_make.2.1 57 = .ok (.aload 4, 2) := by decide +kernel
theorem d_Mill_make_59 : decode Y_Mill_make.2.1 59 = .ok (.invokevirtual 98, 3) := by decide +kernel
theorem d_Mill_make_62 : decode Y_Mill_make.2.1 62 = .ok (.ifCond .eq 27, 3) := by decide +kernel
theorem d_Mill_make_65 : decode Y_Mill_make.2.1 65 = .ok (.aload 4, 2) := by decide +kernel
theorem d_Mill_make_67 : decode Y_Mill_make.2.1 67 = .ok (.iload 6, 2) := by decide +kernel
theorem d_Mill_make_69 : decode Y_Mill_make.2.1 69 = .ok (.invokevirtual 102, 3) := by decide +kernel
theorem d_Mill_make_72 : decode Y_Mill_make.2.1 72 = .ok (.ifCond .ne 17, 3) := by decide +kernel
theorem d_Mill_make_75 : decode Y_Mill_make.2.1 75 = .ok (.aload 4, 2) := by decide +kernel
theorem d_Mill_make_77 : decode Y_Mill_make.2.1 77 = .ok (.iload 6, 2) := by decide +kernel
theorem d_Mill_make_79 : decode Y_Mill_make.2.1 79 = .ok (.invokevirtual 105, 3) := by decide +kernel
theorem d_Mill_make_82 : decode Y_Mill_make.2.1 82 = .ok (.iconst 1, 1) := by decide +kernel
theorem d_Mill_make_83 : decode Y_Mill_make.2.1 83 = .ok (.iadd, 1) := by decide +kernel
theorem d_Mill_make_84 : decode Y_Mill_make.2.1 84 = .ok (.iload 5, 2) := by decide +kernel
theorem d_Mill_make_86 : decode Y_Mill_make.2.1 86 = .ok (.if_icmp .le 11, 3) := by decide +kernel
theorem d_Mill_make_89 : decode Y_Mill_make.2.1 89 = .ok (.new 63, 3) := by decide +kernel
theorem d_Mill_make_92 : decode Y_Mill_make.2.1 92 = .ok (.dup, 1) := by decide +kernel
theorem d_Mill_make_93 : decode Y_Mill_make.2.1 93 = .ok (.invokespecial 65, 3) := by decide +kernel
theorem d_Mill_make_96 : decode Y_Mill_make.2.1 96 = .ok (.athrow, 1) := by decide +kernel
theorem d_Mill_make_97 : decode Y_Mill_make.2.1 97 = .ok (.aload_n 0, 1) := by decide +kernel
theorem d_Mill_make_98 : decode Y_Mill_make.2.1 98 = .ok (.aload 4, 2) := by decide +kernel
theorem d_Mill_make_100 : decode Y_Mill_make.2.1 100 = .ok (.new 82, 3) := by decide +kernel
theorem d_Mill_make_103 : decode Y_Mill_make.2.1 103 = .ok (.dup, 1) := by decide +kernel
theorem d_Mill_make_104 : decode Y_Mill_make.2.1 104 = .ok (.iload_n 1, 1) := by decide +kernel
theorem d_Mill_make_105 : decode Y_Mill_make.2.1 105 = .ok (.iconst 1, 1) := by decide +kernel
theorem d_Mill_make_106 : decode Y_Mill_make.2.1 106 = .ok (.iload_n 2, 1) := by decide +kernel
theorem d_Mill_make_107 : decode Y_Mill_make.2.1 107 = .ok (.aload 4, 2) := by decide +kernel
theorem d_Mill_make_109 : decode Y_Mill_make.2.1 109 = .ok (.iload 6, 2) := by decide +kernel
theorem d_Mill_make_111 : decode Y_Mill_make.2.1 111 = .ok (.invokevirtual 109, 3) := by decide +kernel
theorem d_Mill_make_114 : decode Y_Mill_make.2.1 114 = .ok (.invokespecial 84, 3) := by decide +kernel
theorem d_Mill_make_117 : decode Y_Mill_make.2.1 117 = .ok (.invokevirtual 87, 3) := by decide +kernel
theorem d_Mill_make_120 : decode Y_Mill_make.2.1 120 = .ok (.ireturn, 1) := by decide +kernel
theorem d_Mill_either_0 : decode Y_Mill_either.2.1 0 = .ok (.aload_n 0, 1) := by decide +kernel
theorem d_Mill_either_1 : decode Y_Mill_either.2.1 1 = .ok (.getfield 26, 3) := by decide +kernel
theorem d_Mill_either_4 : decode Y_Mill_either.2.1 4 = .ok (.invokevirtual 113, 3) := by decide +kernel
theorem d_Mill_either_7 : decode Y_Mill_either.2.1 7 = .ok (.iconst 2, 1) := by decide +kernel
theorem d_Mill_either_8 : decode Y_Mill_either.2.1 8 = .ok (.if_icmp .lt 29, 3) := by decide +kernel
theorem d_Mill_either_11 : decode Y_Mill_either.2.1 11 = .ok (.aload_n 0, 1) := by decide +kernel
theorem d_Mill_either_12 : decode Y_Mill_either.2.1 12 = .ok (.getfield 26, 3) := by decide +kernel
theorem d_Mill_either_15 : decode Y_Mill_either.2.1 15 = .ok (.iconst 2, 1) := by decide +kernel
theorem d_Mill_either_16 : decode Y_Mill_either.2.1 16 = .ok (.invokevirtual 117, 3) := by decide +kernel
theorem d_Mill_either_19 : decode Y_Mill_either.2.1 19 = .ok (.ifCond .eq 18, 3) := by decide +kernel
theorem d_Mill_either_22 : decode Y_Mill_either.2.1 22 = .ok (.aload_n 0, 1) := by decide +kernel
theorem d_Mill_either_23 : decode Y_Mill_either.2.1 23 = .ok (.getfield 26, 3) := by decide +kernel
theorem d_Mill_either_26 : decode Y_Mill_either.2.1 26 = .ok (.iconst 2, 1) := by decide +kernel
theorem d_Mill_either_27 : decode Y_Mill_either.2.1 27 = .ok (.invokevirtual 105, 3) := by decide +kernel
theorem d_Mill_either_30 : decode Y_Mill_either.2.1 30 = .ok (.iconst 1, 1) := by decide +kernel
theorem d_Mill_either_31 : decode Y_Mill_either.2.1 31 = .ok (.iadd, 1) := by decide +kernel
theorem d_Mill_either_32 : decode Y_Mill_either.2.1 32 = .ok (.bipush 24, 2) := by decide +kernel
theorem d_Mill_either_34 : decode Y_Mill_either.2.1 34 = .ok (.if_icmp .le 11, 3) := by decide +kernel
theorem d_Mill_either_37 : decode Y_Mill_either.2.1 37 = .ok (.new 63, 3) := by decide +kernel
theorem d_Mill_either_40 : decode Y_Mill_either.2.1 40 = .ok (.dup, 1) := by decide +kernel
theorem d_Mill_either_41 : decode Y_Mill_either.2.1 41 = .ok (.invokespecial 65, 3) := by decide +kernel
theorem d_Mill_either_44 : decode Y_Mill_either.2.1 44 = .ok (.athrow, 1) := by decide +kernel
theorem d_Mill_either_45 : decode Y_Mill_either.2.1 45 = .ok (.aload_n 0, 1) := by decide +kernel
theorem d_Mill_either_46 : decode Y_Mill_either.2.1 46 = .ok (.getfield 26, 3) := by decide +kernel
theorem d_Mill_either_49 : decode Y_Mill_either.2.1 49 = .ok (.iconst 0, 1) := by decide +kernel
theorem d_Mill_either_50 : decode Y_Mill_either.2.1 50 = .ok (.invokevirtual 120, 3) := by decide +kernel
theorem d_Mill_either_53 : decode Y_Mill_either.2.1 53 = .ok (.istore_n 1, 1) := by decide +kernel
theorem d_Mill_either_54 : decode Y_Mill_either.2.1 54 = .ok (.aload_n 0, 1) := by decide +kernel
theorem d_Mill_either_55 : decode Y_Mill_either.2.1 55 = .ok (.aload_n 0, 1) := by decide +kernel
theorem d_Mill_either_56 : decode Y_Mill_either.2.1 56 = .ok (.getfield 26, 3) := by decide +kernel
theorem d_Mill_either_59 : decode Y_Mill_either.2.1 59 = .ok (.new 82, 3) := by decide +kernel
theorem d_Mill_either_62 : decode Y_Mill_either.2.1 62 = .ok (.dup, 1) := by decide +kernel
theorem d_Mill_either_63 : decode Y_Mill_either.2.1 63 = .ok (.iload_n 1, 1) := by decide +kernel
theorem d_Mill_either_64 : decode Y_Mill_either.2.1 64 = .ok (.iconst 3, 1) := by decide +kernel
theorem d_Mill_either_65 : decode Y_Mill_either.2.1 65 = .ok (.iconst 0, 1) := by decide +kernel
theorem d_Mill_either_66 : decode Y_Mill_either.2.1 66 = .ok (.aload_n 0, 1) := by decide +kernel
theorem d_Mill_either_67 : decode Y_Mill_either.2.1 67 = .ok (.getfield 26, 3) := by decide +kernel
theorem d_Mill_either_70 : decode Y_Mill_either.2.1 70 = .ok (.iconst 2, 1) := by decide +kernel
theorem d_Mill_either_71 : decode Y_Mill_either.2.1 71 = .ok (.invokevirtual 109, 3) := by decide +kernel
theorem d_Mill_either_74 : decode Y_Mill_either.2.1 74 = .ok (.invokespecial 84, 3) := by decide +kernel
theorem d_Mill_either_77 : decode Y_Mill_either.2.1 77 = .ok (.invokevirtual 87, 3) := by decide +kernel
theorem d_Mill_either_80 : decode Y_Mill_either.2.1 80 = .ok (.ireturn, 1) := by decide +kernel
theorem d_Mill_name_0 : decode Y_Mill_name.2.1 0 = .ok (.iload_n 1, 1) := by decide +kernel
theorem d_Mill_name_1 : decode Y_Mill_name.2.1 1 = .ok (.invokestatic 123, 3) := by decide +kernel
theorem d_Mill_name_4 : decode Y_Mill_name.2.1 4 = .ok (.ifCond .ne 11, 3) := by decide +kernel
theorem d_Mill_name_7 : decode Y_Mill_name.2.1 7 = .ok (.new 53, 3) := by decide +kernel
theorem d_Mill_name_10 : decode Y_Mill_name.2.1 10 = .ok (.dup, 1) := by decide +kernel
theorem d_Mill_name_11 : decode Y_Mill_name.2.1 11 = .ok (.invokespecial 55, 3) := by decide +kernel
theorem d_Mill_name_14 : decode Y_Mill_name.2.1 14 = .ok (.athrow, 1) := by decide +kernel
theorem d_Mill_name_15 : decode Y_Mill_name.2.1 15 = .ok (.aload_n 0, 1) := by decide +kernel
theorem d_Mill_name_16 : decode Y_Mill_name.2.1 16 = .ok (.getfield 26, 3) := by decide +kernel
theorem d_Mill_name_19 : decode Y_Mill_name.2.1 19 = .ok (.iconst 0, 1) := by decide +kernel
theorem d_Mill_name_20 : decode Y_Mill_name.2.1 20 = .ok (.invokevirtual 126, 3) := by decide +kernel
theorem d_Mill_name_23 : decode Y_Mill_name.2.1 23 = .ok (.astore_n 2, 1) := by decide +kernel
theorem d_Mill_name_24 : decode Y_Mill_name.2.1 24 = .ok (.aload_n 2, 1) := by decide +kernel
theorem d_Mill_name_25 : decode Y_Mill_name.2.1 25 = .ok (.ifnull 11, 3) := by decide +kernel
theorem d_Mill_name_28 : decode Y_Mill_name.2.1 28 = .ok (.aload_n 2, 1) := by decide +kernel
theorem d_Mill_name_29 : decode Y_Mill_name.2.1 29 = .ok (.iload_n 1, 1) := by decide +kernel
theorem d_Mill_name_30 : decode Y_Mill_name.2.1 30 = .ok (.invokevirtual 130, 3) := by decide +kernel
theorem d_Mill_name_33 : decode Y_Mill_name.2.1 33 = .ok (.ifCond .eq 11, 3) := by decide +kernel
theorem d_Mill_name_36 : decode Y_Mill_name.2.1 36 = .ok (.new 63, 3) := by decide +kernel
theorem d_Mill_name_39 : decode Y_Mill_name.2.1 39 = .ok (.dup, 1) := by decide +kernel
theorem d_Mill_name_40 : decode Y_Mill_name.2.1 40 = .ok (.invokespecial 65, 3) := by decide +kernel
theorem d_Mill_name_43 : decode Y_Mill_name.2.1 43 = .ok (.athrow, 1) := by decide +kernel
theorem d_Mill_name_44 : decode Y_Mill_name.2.1 44 = .ok (.aload_n 2, 1) := by decide +kernel
theorem d_Mill_name_45 : decode Y_Mill_name.2.1 45 = .ok (.iload_n 1, 1) := by decide +kernel
theorem d_Mill_name_46 : decode Y_Mill_name.2.1 46 = .ok (.invokevirtual 133, 3) := by decide +kernel
theorem d_Mill_name_49 : decode Y_Mill_name.2.1 49 = .ok (.ireturn, 1) := by decide +kernel
theorem d_Mill_pop_0 : decode Y_Mill_pop.2.1 0 = .ok (.aload_n 0, 1) := by decide +kernel
theorem d_Mill_pop_1 : decode Y_Mill_pop.2.1 1 = .ok (.iload_n 1, 1) := by decide +kernel
theorem d_Mill_pop_2 : decode Y_Mill_pop.2.1 2 = .ok (.invokevirtual 94, 3) := by decide +kernel
theorem d_Mill_pop_5 : decode Y_Mill_pop.2.1 5 = .ok (.astore_n 2, 1) := by decide +kernel
theorem d_Mill_pop_6 : decode Y_Mill_pop.2.1 6 = .ok (.aload_n 2, 1) := by decide +kernel
theorem d_Mill_pop_7 : decode Y_Mill_pop.2.1 7 = .ok (.iconst 0, 1) := by decide +kernel
theorem d_Mill_pop_8 : decode Y_Mill_pop.2.1 8 = .ok (.invokevirtual 126, 3) := by decide +kernel
theorem d_Mill_pop_11 : decode Y_Mill_pop.2.1 11 = .ok (.astore_n 3, 1) := by decide +kernel
theorem d_Mill_pop_12 : decode Y_Mill_pop.2.1 12 = .ok (.aload_n 3, 1) := by decide +kernel
theorem d_Mill_pop_13 : decode Y_Mill_pop.2.1 13 = .ok (.ifnonnull 5, 3) := by decide +kernel
theorem d_Mill_pop_16 : decode Y_Mill_pop.2.1 16 = .ok (.iconst 0, 1) := by decide +kernel
theorem d_Mill_pop_17 : decode Y_Mill_pop.2.1 17 = .ok (.ireturn, 1) := by decide +kernel
theorem d_Mill_pop_18 : decode Y_Mill_pop.2.1 18 = .ok (.aload_n 2, 1) := by decide +kernel
theorem d_Mill_pop_19 : decode Y_Mill_pop.2.1 19 = .ok (.iconst 1, 1) := by decide +kernel
theorem d_Mill_pop_20 : decode Y_Mill_pop.2.1 20 = .ok (.invokevirtual 136, 3) := by decide +kernel
theorem d_Mill_pop_23 : decode Y_Mill_pop.2.1 23 = .ok (.aload_n 3, 1) := by decide +kernel
theorem d_Mill_pop_24 : decode Y_Mill_pop.2.1 24 = .ok (.getfield 140, 3) := by decide +kernel
theorem d_Mill_pop_27 : decode Y_Mill_pop.2.1 27 = .ok (.ireturn, 1) := by decide +kernel
theorem d_Mill_addCase_0 : decode Y_Mill_addCase.2.1 0 = .ok (.aload_n 0, 1) := by decide +kernel
theorem d_Mill_addCase_1 : decode Y_Mill_addCase.2.1 1 = .ok (.getfield 26, 3) := by decide +kernel
theorem d_Mill_addCase_4 : decode Y_Mill_addCase.2.1 4 = .ok (.iconst 0, 1) := by decide +kernel
theorem d_Mill_addCase_5 : decode Y_Mill_addCase.2.1 5 = .ok (.invokevirtual 126, 3) := by decide +kernel
theorem d_Mill_addCase_8 : decode Y_Mill_addCase.2.1 8 = .ok (.astore_n 2, 1) := by decide +kernel
theorem d_Mill_addCase_9 : decode Y_Mill_addCase.2.1 9 = .ok (.aload_n 2, 1) := by decide +kernel
theorem d_Mill_addCase_10 : decode Y_Mill_addCase.2.1 10 = .ok (.ifnull 14, 3) := by decide +kernel
theorem d_Mill_addCase_13 : decode Y_Mill_addCase.2.1 13 = .ok (.aload_n 0, 1) := by decide +kernel
theorem d_Mill_addCase_14 : decode Y_Mill_addCase.2.1 14 = .ok (.getfield 19, 3) := by decide +kernel
theorem d_Mill_addCase_17 : decode Y_Mill_addCase.2.1 17 = .ok (.aload_n 2, 1) := by decide +kernel
theorem d_Mill_addCase_18 : decode Y_Mill_addCase.2.1 18 = .ok (.invokevirtual 144, 3) := by decide +kernel
theorem d_Mill_addCase_21 : decode Y_Mill_addCase.2.1 21 = .ok (.ifCond .ne 11, 3) := by decide +kernel
theorem d_Mill_addCase_24 : decode Y_Mill_addCase.2.1 24 = .ok (.new 63, 3) := by decide +kernel
theorem d_Mill_addCase_27 : decode Y_Mill_addCase.2.1 27 = .ok (.dup, 1) := by decide +kernel
theorem d_Mill_addCase_28 : decode Y_Mill_addCase.2.1 28 = .ok (.invokespecial 65, 3) := by decide +kernel
theorem d_Mill_addCase_31 : decode Y_Mill_addCase.2.1 31 = .ok (.athrow, 1) := by decide +kernel
theorem d_Mill_addCase_32 : decode Y_Mill_addCase.2.1 32 = .ok (.aload_n 0, 1) := by decide +kernel
theorem d_Mill_addCase_33 : decode Y_Mill_addCase.2.1 33 = .ok (.getfield 26, 3) := by decide +kernel
theorem d_Mill_addCase_36 : decode Y_Mill_addCase.2.1 36 = .ok (.iconst 1, 1) := by decide +kernel
theorem d_Mill_addCase_37 : decode Y_Mill_addCase.2.1 37 = .ok (.invokevirtual 136, 3) := by decide +kernel
theorem d_Mill_addCase_40 : decode Y_Mill_addCase.2.1 40 = .ok (.aload_n 0, 1) := by decide +kernel
theorem d_Mill_addCase_41 : decode Y_Mill_addCase.2.1 41 = .ok (.invokevirtual 148, 3) := by decide +kernel
theorem d_Mill_addCase_44 : decode Y_Mill_addCase.2.1 44 = .ok (.aload_n 0, 1) := by decide +kernel
theorem d_Mill_addCase_45 : decode Y_Mill_addCase.2.1 45 = .ok (.getfield 19, 3) := by decide +kernel
theorem d_Mill_addCase_48 : decode Y_Mill_addCase.2.1 48 = .ok (.aload_n 2, 1) := by decide +kernel
theorem d_Mill_addCase_49 : decode Y_Mill_addCase.2.1 49 = .ok (.iload_n 1, 1) := by decide +kernel
theorem d_Mill_addCase_50 : decode Y_Mill_addCase.2.1 50 = .ok (.invokevirtual 151, 3) := by decide +kernel
theorem d_Mill_addCase_53 : decode Y_Mill_addCase.2.1 53 = .ok (.ireturn, 1) := by decide +kernel
theorem d_Mill_build_0 : decode Y_Mill_build.2.1 0 = .ok (.aload_n 0, 1) := by decide +kernel
theorem d_Mill_build_1 : decode Y_Mill_build.2.1 1 = .ok (.getfield 19, 3) := by decide +kernel
theorem d_Mill_build_4 : decode Y_Mill_build.2.1 4 = .ok (.invokevirtual 155, 3) := by decide +kernel
theorem d_Mill_build_7 : decode Y_Mill_build.2.1 7 = .ok (.ifCond .ne 11, 3) := by decide +kernel
theorem d_Mill_build_10 : decode Y_Mill_build.2.1 10 = .ok (.new 63, 3) := by decide +kernel
theorem d_Mill_build_13 : decode Y_Mill_build.2.1 13 = .ok (.dup, 1) := by decide +kernel
theorem d_Mill_build_14 : decode Y_Mill_build.2.1 14 = .ok (.invokespecial 65, 3) := by decide +kernel
theorem d_Mill_build_17 : decode Y_Mill_build.2.1 17 = .ok (.athrow, 1) := by decide +kernel
theorem d_Mill_build_18 : decode Y_Mill_build.2.1 18 = .ok (.aload_n 0, 1) := by decide +kernel
theorem d_Mill_build_19 : decode Y_Mill_build.2.1 19 = .ok (.getfield 157, 3) := by decide +kernel
theorem d_Mill_build_22 : decode Y_Mill_build.2.1 22 = .ok (.ifCond .ne 37, 3) := by decide +kernel
theorem d_Mill_build_25 : decode Y_Mill_build.2.1 25 = .ok (.aload_n 0, 1) := by decide +kernel
theorem d_Mill_build_26 : decode Y_Mill_build.2.1 26 = .ok (.getfield 160, 3) := by decide +kernel
theorem d_Mill_build_29 : decode Y_Mill_build.2.1 29 = .ok (.ifCond .ne 30, 3) := by decide +kernel
theorem d_Mill_build_32 : decode Y_Mill_build.2.1 32 = .ok (.aload_n 0, 1) := by decide +kernel
theorem d_Mill_build_33 : decode Y_Mill_build.2.1 33 = .ok (.aload_n 0, 1) := by decide +kernel
theorem d_Mill_build_34 : decode Y_Mill_build.2.1 34 = .ok (.getfield 38, 3) := by decide +kernel
theorem d_Mill_build_37 : decode Y_Mill_build.2.1 37 = .ok (.invokevirtual 163, 3) := by decide +kernel
theorem d_Mill_build_40 : decode Y_Mill_build.2.1 40 = .ok (.putfield 157, 3) := by decide +kernel
theorem d_Mill_build_43 : decode Y_Mill_build.2.1 43 = .ok (.aload_n 0, 1) := by decide +kernel
theorem d_Mill_build_44 : decode Y_Mill_build.2.1 44 = .ok (.aload_n 0, 1) := by decide +kernel
theorem d_Mill_build_45 : decode Y_Mill_build.2.1 45 = .ok (.getfield 157, 3) := by decide +kernel
theorem d_Mill_build_48 : decode Y_Mill_build.2.1 48 = .ok (.ifCond .ne 7, 3) := by decide +kernel
theorem d_Mill_build_51 : decode Y_Mill_build.2.1 51 = .ok (.iconst 1, 1) := by decide +kernel
theorem d_Mill_build_52 : decode Y_Mill_build.2.1 52 = .ok (.goto 4, 3) := by decide +kernel
theorem d_Mill_build_55 : decode Y_Mill_build.2.1 55 = .ok (.iconst 0, 1) := by decide +kernel
theorem d_Mill_build_56 : decode Y_Mill_build.2.1 56 = .ok (.putfield 160, 3) := by decide +kernel
theorem d_Mill_build_59 : decode Y_Mill_build.2.1 59 = .ok (.aload_n 0, 1) := by decide +kernel
theorem d_Mill_build_60 : decode Y_Mill_build.2.1 60 = .ok (.getfield 160, 3) := by decide +kernel
theorem d_Mill_build_63 : decode Y_Mill_build.2.1 63 = .ok (.ifCond .eq 11, 3) := by decide +kernel
theorem d_Mill_build_66 : decode Y_Mill_build.2.1 66 = .ok (.new 167, 3) := by decide +kernel
theorem d_Mill_build_69 : decode Y_Mill_build.2.1 69 = .ok (.dup, 1) := by decide +kernel
theorem d_Mill_build_70 : decode Y_Mill_build.2.1 70 = .ok (.invokespecial 169, 3) := by decide +kernel
theorem d_Mill_build_73 : decode Y_Mill_build.2.1 73 = .ok (.athrow, 1) := by decide +kernel
theorem d_Mill_build_74 : decode Y_Mill_build.2.1 74 = .ok (.aload_n 0, 1) := by decide +kernel
theorem d_Mill_build_75 : decode Y_Mill_build.2.1 75 = .ok (.getfield 38, 3) := by decide +kernel
theorem d_Mill_build_78 : decode Y_Mill_build.2.1 78 = .ok (.invokevirtual 170, 3) := by decide +kernel
theorem d_Mill_build_81 : decode Y_Mill_build.2.1 81 = .ok (.ireturn, 1) := by decide +kernel
theorem d_Mill_match_0 : decode Y_Mill_match.2.1 0 = .ok (.aload_n 0, 1) := by decide +kernel
theorem d_Mill_match_1 : decode Y_Mill_match.2.1 1 = .ok (.getfield 30, 3) := by decide +kernel
theorem d_Mill_match_4 : decode Y_Mill_match.2.1 4 = .ok (.iconst 0, 1) := by decide +kernel
theorem d_Mill_match_5 : decode Y_Mill_match.2.1 5 = .ok (.invokevirtual 126, 3) := by decide +kernel
theorem d_Mill_match_8 : decode Y_Mill_match.2.1 8 = .ok (.astore_n 2, 1) := by decide +kernel
theorem d_Mill_match_9 : decode Y_Mill_match.2.1 9 = .ok (.aload_n 2, 1) := by decide +kernel
theorem d_Mill_match_10 : decode Y_Mill_match.2.1 10 = .ok (.ifnull 24, 3) := by decide +kernel
theorem d_Mill_match_13 : decode Y_Mill_match.2.1 13 = .ok (.aload_n 0, 1) := by decide +kernel
theorem d_Mill_match_14 : decode Y_Mill_match.2.1 14 = .ok (.getfield 157, 3) := by decide +kernel
theorem d_Mill_match_17 : decode Y_Mill_match.2.1 17 = .ok (.ifCond .eq 17, 3) := by decide +kernel
theorem d_Mill_match_20 : decode Y_Mill_match.2.1 20 = .ok (.aload_n 0, 1) := by decide +kernel
theorem d_Mill_match_21 : decode Y_Mill_match.2.1 21 = .ok (.getfield 19, 3) := by decide +kernel
theorem d_Mill_match_24 : decode Y_Mill_match.2.1 24 = .ok (.aload_n 2, 1) := by decide +kernel
theorem d_Mill_match_25 : decode Y_Mill_match.2.1 25 = .ok (.getfield 171, 3) := by decide +kernel
theorem d_Mill_match_28 : decode Y_Mill_match.2.1 28 = .ok (.invokevirtual 174, 3) := by decide +kernel
theorem d_Mill_match_31 : decode Y_Mill_match.2.1 31 = .ok (.ifCond .ne 11, 3) := by decide +kernel
theorem d_Mill_match_34 : decode Y_Mill_match.2.1 34 = .ok (.new 63, 3) := by decide +kernel
theorem d_Mill_match_37 : decode Y_Mill_match.2.1 37 = .ok (.dup, 1) := by decide +kernel
theorem d_Mill_match_38 : decode Y_Mill_match.2.1 38 = .ok (.invokespecial 65, 3) := by decide +kernel
theorem d_Mill_match_41 : decode Y_Mill_match.2.1 41 = .ok (.athrow, 1) := by decide +kernel
theorem d_Mill_match_42 : decode Y_Mill_match.2.1 42 = .ok (.aload_n 0, 1) := by decide +kernel
theorem d_Mill_match_43 : decode Y_Mill_match.2.1 43 = .ok (.getfield 30, 3) := by decide +kernel
theorem d_Mill_match_46 : decode Y_Mill_match.2.1 46 = .ok (.iconst 1, 1) := by decide +kernel
theorem d_Mill_match_47 : decode Y_Mill_match.2.1 47 = .ok (.invokevirtual 136, 3) := by decide +kernel
theorem d_Mill_match_50 : decode Y_Mill_match.2.1 50 = .ok (.aload_n 0, 1) := by decide +kernel
theorem d_Mill_match_51 : decode Y_Mill_match.2.1 51 = .ok (.getfield 38, 3) := by decide +kernel
theorem d_Mill_match_54 : decode Y_Mill_match.2.1 54 = .ok (.aload_n 2, 1) := by decide +kernel
theorem d_Mill_match_55 : decode Y_Mill_match.2.1 55 = .ok (.iload_n 1, 1) := by decide +kernel
theorem d_Mill_match_56 : decode Y_Mill_match.2.1 56 = .ok (.aload_n 0, 1) := by decide +kernel
theorem d_Mill_match_57 : decode Y_Mill_match.2.1 57 = .ok (.getfield 45, 3) := by decide +kernel
theorem d_Mill_match_60 : decode Y_Mill_match.2.1 60 = .ok (.invokevirtual 177, 3) := by decide +kernel
theorem d_Mill_match_63 : decode Y_Mill_match.2.1 63 = .ok (.ireturn, 1) := by decide +kernel
theorem d_Mill_asked_0 : decode Y_Mill_asked.2.1 0 = .ok (.aload_n 0, 1) := by decide +kernel
theorem d_Mill_asked_1 : decode Y_Mill_asked.2.1 1 = .ok (.getfield 45, 3) := by decide +kernel
theorem d_Mill_asked_4 : decode Y_Mill_asked.2.1 4 = .ok (.iload_n 1, 1) := by decide +kernel
theorem d_Mill_asked_5 : decode Y_Mill_asked.2.1 5 = .ok (.invokevirtual 181, 3) := by decide +kernel
theorem d_Mill_asked_8 : decode Y_Mill_asked.2.1 8 = .ok (.ireturn, 1) := by decide +kernel
theorem d_Mill_bound_0 : decode Y_Mill_bound.2.1 0 = .ok (.iload_n 1, 1) := by decide +kernel
theorem d_Mill_bound_1 : decode Y_Mill_bound.2.1 1 = .ok (.invokestatic 123, 3) := by decide +kernel
theorem d_Mill_bound_4 : decode Y_Mill_bound.2.1 4 = .ok (.ifCond .ne 11, 3) := by decide +kernel
theorem d_Mill_bound_7 : decode Y_Mill_bound.2.1 7 = .ok (.new 53, 3) := by decide +kernel
theorem d_Mill_bound_10 : decode Y_Mill_bound.2.1 10 = .ok (.dup, 1) := by decide +kernel
theorem d_Mill_bound_11 : decode Y_Mill_bound.2.1 11 = .ok (.invokespecial 55, 3) := by decide +kernel
theorem d_Mill_bound_14 : decode Y_Mill_bound.2.1 14 = .ok (.athrow, 1) := by decide +kernel
theorem d_Mill_bound_15 : decode Y_Mill_bound.2.1 15 = .ok (.aload_n 0, 1) := by decide +kernel
theorem d_Mill_bound_16 : decode Y_Mill_bound.2.1 16 = .ok (.getfield 45, 3) := by decide +kernel
theorem d_Mill_bound_19 : decode Y_Mill_bound.2.1 19 = .ok (.iload_n 1, 1) := by decide +kernel
theorem d_Mill_bound_20 : decode Y_Mill_bound.2.1 20 = .ok (.invokevirtual 184, 3) := by decide +kernel
theorem d_Mill_bound_23 : decode Y_Mill_bound.2.1 23 = .ok (.ireturn, 1) := by decide +kernel
theorem d_Mill_boundAt_0 : decode Y_Mill_boundAt.2.1 0 = .ok (.iload_n 1, 1) := by decide +kernel
theorem d_Mill_boundAt_1 : decode Y_Mill_boundAt.2.1 1 = .ok (.invokestatic 123, 3) := by decide +kernel
theorem d_Mill_boundAt_4 : decode Y_Mill_boundAt.2.1 4 = .ok (.ifCond .ne 11, 3) := by decide +kernel
theorem d_Mill_boundAt_7 : decode Y_Mill_boundAt.2.1 7 = .ok (.new 53, 3) := by decide +kernel
theorem d_Mill_boundAt_10 : decode Y_Mill_boundAt.2.1 10 = .ok (.dup, 1) := by decide +kernel
theorem d_Mill_boundAt_11 : decode Y_Mill_boundAt.2.1 11 = .ok (.invokespecial 55, 3) := by decide +kernel
theorem d_Mill_boundAt_14 : decode Y_Mill_boundAt.2.1 14 = .ok (.athrow, 1) := by decide +kernel
theorem d_Mill_boundAt_15 : decode Y_Mill_boundAt.2.1 15 = .ok (.aload_n 0, 1) := by decide +kernel
theorem d_Mill_boundAt_16 : decode Y_Mill_boundAt.2.1 16 = .ok (.getfield 45, 3) := by decide +kernel
theorem d_Mill_boundAt_19 : decode Y_Mill_boundAt.2.1 19 = .ok (.iload_n 1, 1) := by decide +kernel
theorem d_Mill_boundAt_20 : decode Y_Mill_boundAt.2.1 20 = .ok (.iload_n 2, 1) := by decide +kernel
theorem d_Mill_boundAt_21 : decode Y_Mill_boundAt.2.1 21 = .ok (.invokevirtual 187, 3) := by decide +kernel
theorem d_Mill_boundAt_24 : decode Y_Mill_boundAt.2.1 24 = .ok (.ireturn, 1) := by decide +kernel
theorem d_Mill_missing_0 : decode Y_Mill_missing.2.1 0 = .ok (.aload_n 0, 1) := by decide +kernel
theorem d_Mill_missing_1 : decode Y_Mill_missing.2.1 1 = .ok (.getfield 157, 3) := by decide +kernel
theorem d_Mill_missing_4 : decode Y_Mill_missing.2.1 4 = .ok (.ifCond .eq 14, 3) := by decide +kernel
theorem d_Mill_missing_7 : decode Y_Mill_missing.2.1 7 = .ok (.aload_n 0, 1) := by decide +kernel
theorem d_Mill_missing_8 : decode Y_Mill_missing.2.1 8 = .ok (.getfield 38, 3) := by decide +kernel
theorem d_Mill_missing_11 : decode Y_Mill_missing.2.1 11 = .ok (.iload_n 1, 1) := by decide +kernel
theorem d_Mill_missing_12 : decode Y_Mill_missing.2.1 12 = .ok (.invokevirtual 190, 3) := by decide +kernel
theorem d_Mill_missing_15 : decode Y_Mill_missing.2.1 15 = .ok (.goto 4, 3) := by decide +kernel
theorem d_Mill_missing_18 : decode Y_Mill_missing.2.1 18 = .ok (.iconst (-1), 1) := by decide +kernel
theorem d_Mill_missing_19 : decode Y_Mill_missing.2.1 19 = .ok (.ireturn, 1) := by decide +kernel
theorem d_Mill_unused_0 : decode Y_Mill_unused.2.1 0 = .ok (.aload_n 0, 1) := by decide +kernel
theorem d_Mill_unused_1 : decode Y_Mill_unused.2.1 1 = .ok (.getfield 157, 3) := by decide +kernel
theorem d_Mill_unused_4 : decode Y_Mill_unused.2.1 4 = .ok (.ifCond .eq 14, 3) := by decide +kernel
theorem d_Mill_unused_7 : decode Y_Mill_unused.2.1 7 = .ok (.aload_n 0, 1) := by decide +kernel
theorem d_Mill_unused_8 : decode Y_Mill_unused.2.1 8 = .ok (.getfield 38, 3) := by decide +kernel
theorem d_Mill_unused_11 : decode Y_Mill_unused.2.1 11 = .ok (.iload_n 1, 1) := by decide +kernel
theorem d_Mill_unused_12 : decode Y_Mill_unused.2.1 12 = .ok (.invokevirtual 193, 3) := by decide +kernel
theorem d_Mill_unused_15 : decode Y_Mill_unused.2.1 15 = .ok (.goto 4, 3) := by decide +kernel
theorem d_Mill_unused_18 : decode Y_Mill_unused.2.1 18 = .ok (.iconst (-1), 1) := by decide +kernel
theorem d_Mill_unused_19 : decode Y_Mill_unused.2.1 19 = .ok (.ireturn, 1) := by decide +kernel
theorem d_Mill_question_0 : decode Y_Mill_question.2.1 0 = .ok (.aload_n 0, 1) := by decide +kernel
theorem d_Mill_question_1 : decode Y_Mill_question.2.1 1 = .ok (.getfield 157, 3) := by decide +kernel
theorem d_Mill_question_4 : decode Y_Mill_question.2.1 4 = .ok (.ifCond .eq 27, 3) := by decide +kernel
theorem d_Mill_question_7 : decode Y_Mill_question.2.1 7 = .ok (.iload_n 1, 1) := by decide +kernel
theorem d_Mill_question_8 : decode Y_Mill_question.2.1 8 = .ok (.ifCond .lt 23, 3) := by decide +kernel
theorem d_Mill_question_11 : decode Y_Mill_question.2.1 11 = .ok (.iload_n 1, 1) := by decide +kernel
theorem d_Mill_question_12 : decode Y_Mill_question.2.1 12 = .ok (.aload_n 0, 1) := by decide +kernel
theorem d_Mill_question_13 : decode Y_Mill_question.2.1 13 = .ok (.getfield 38, 3) := by decide +kernel
theorem d_Mill_question_16 : decode Y_Mill_question.2.1 16 = .ok (.invokevirtual 170, 3) := by decide +kernel
theorem d_Mill_question_19 : decode Y_Mill_question.2.1 19 = .ok (.if_icmp .ge 12, 3) := by decide +kernel
theorem d_Mill_question_22 : decode Y_Mill_question.2.1 22 = .ok (.iload_n 2, 1) := by decide +kernel
theorem d_Mill_question_23 : decode Y_Mill_question.2.1 23 = .ok (.ifCond .lt 8, 3) := by decide +kernel
theorem d_Mill_question_26 : decode Y_Mill_question.2.1 26 = .ok (.iload_n 2, 1) := by decide +kernel
theorem d_Mill_question_27 : decode Y_Mill_question.2.1 27 = .ok (.iconst 3, 1) := by decide +kernel
theorem d_Mill_question_28 : decode Y_Mill_question.2.1 28 = .ok (.if_icmp .le 11, 3) := by decide +kernel
theorem d_Mill_question_31 : decode Y_Mill_question.2.1 31 = .ok (.new 53, 3) := by decide +kernel
theorem d_Mill_question_34 : decode Y_Mill_question.2.1 34 = .ok (.dup, 1) := by decide +kernel
theorem d_Mill_question_35 : decode Y_Mill_question.2.1 35 = .ok (.invokespecial 55, 3) := by decide +kernel
theorem d_Mill_question_38 : decode Y_Mill_question.2.1 38 = .ok (.athrow, 1) := by decide +kernel
theorem d_Mill_question_39 : decode Y_Mill_question.2.1 39 = .ok (.aload_n 0, 1) := by decide +kernel
theorem d_Mill_question_40 : decode Y_Mill_question.2.1 40 = .ok (.getfield 38, 3) := by decide +kernel
theorem d_Mill_question_43 : decode Y_Mill_question.2.1 43 = .ok (.iload_n 1, 1) := by decide +kernel
theorem d_Mill_question_44 : decode Y_Mill_question.2.1 44 = .ok (.iload_n 2, 1) := by decide +kernel
theorem d_Mill_question_45 : decode Y_Mill_question.2.1 45 = .ok (.invokevirtual 196, 3) := by decide +kernel
theorem d_Mill_question_48 : decode Y_Mill_question.2.1 48 = .ok (.ireturn, 1) := by decide +kernel
theorem d_Mill_about_0 : decode Y_Mill_about.2.1 0 = .ok (.iload_n 1, 1) := by decide +kernel
theorem d_Mill_about_1 : decode Y_Mill_about.2.1 1 = .ok (.ifCond .lt 9, 3) := by decide +kernel
theorem d_Mill_about_4 : decode Y_Mill_about.2.1 4 = .ok (.iload_n 1, 1) := by decide +kernel
theorem d_Mill_about_5 : decode Y_Mill_about.2.1 5 = .ok (.bipush 6, 2) := by decide +kernel
theorem d_Mill_about_7 : decode Y_Mill_about.2.1 7 = .ok (.if_icmp .le 11, 3) := by decide +kernel
theorem d_Mill_about_10 : decode Y_Mill_about.2.1 10 = .ok (.new 53, 3) := by decide +kernel
theorem d_Mill_about_13 : decode Y_Mill_about.2.1 13 = .ok (.dup, 1) := by decide +kernel
theorem d_Mill_about_14 : decode Y_Mill_about.2.1 14 = .ok (.invokespecial 55, 3) := by decide +kernel
theorem d_Mill_about_17 : decode Y_Mill_about.2.1 17 = .ok (.athrow, 1) := by decide +kernel
theorem d_Mill_about_18 : decode Y_Mill_about.2.1 18 = .ok (.iload_n 1, 1) := by decide +kernel
theorem d_Mill_about_19 : decode Y_Mill_about.2.1 19 = .ok (.tableswitch 49 0 2 #[25, 33, 41], 25) := by decide +kernel
theorem d_Mill_about_44 : decode Y_Mill_about.2.1 44 = .ok (.aload_n 0, 1) := by decide +kernel
theorem d_Mill_about_45 : decode Y_Mill_about.2.1 45 = .ok (.getfield 19, 3) := by decide +kernel
theorem d_Mill_about_48 : decode Y_Mill_about.2.1 48 = .ok (.invokevirtual 155, 3) := by decide +kernel
theorem d_Mill_about_51 : decode Y_Mill_about.2.1 51 = .ok (.ireturn, 1) := by decide +kernel
theorem d_Mill_about_52 : decode Y_Mill_about.2.1 52 = .ok (.aload_n 0, 1) := by decide +kernel
theorem d_Mill_about_53 : decode Y_Mill_about.2.1 53 = .ok (.getfield 26, 3) := by decide +kernel
theorem d_Mill_about_56 : decode Y_Mill_about.2.1 56 = .ok (.invokevirtual 113, 3) := by decide +kernel
theorem d_Mill_about_59 : decode Y_Mill_about.2.1 59 = .ok (.ireturn, 1) := by decide +kernel
theorem d_Mill_about_60 : decode Y_Mill_about.2.1 60 = .ok (.aload_n 0, 1) := by decide +kernel
theorem d_Mill_about_61 : decode Y_Mill_about.2.1 61 = .ok (.getfield 30, 3) := by decide +kernel
theorem d_Mill_about_64 : decode Y_Mill_about.2.1 64 = .ok (.invokevirtual 113, 3) := by decide +kernel
theorem d_Mill_about_67 : decode Y_Mill_about.2.1 67 = .ok (.ireturn, 1) := by decide +kernel
theorem d_Mill_about_68 : decode Y_Mill_about.2.1 68 = .ok (.aload_n 0, 1) := by decide +kernel
theorem d_Mill_about_69 : decode Y_Mill_about.2.1 69 = .ok (.getfield 157, 3) := by decide +kernel
theorem d_Mill_about_72 : decode Y_Mill_about.2.1 72 = .ok (.ifCond .eq 14, 3) := by decide +kernel
theorem d_Mill_about_75 : decode Y_Mill_about.2.1 75 = .ok (.aload_n 0, 1) := by decide +kernel
theorem d_Mill_about_76 : decode Y_Mill_about.2.1 76 = .ok (.getfield 38, 3) := by decide +kernel
theorem d_Mill_about_79 : decode Y_Mill_about.2.1 79 = .ok (.iload_n 1, 1) := by decide +kernel
theorem d_Mill_about_80 : decode Y_Mill_about.2.1 80 = .ok (.invokevirtual 199, 3) := by decide +kernel
theorem d_Mill_about_83 : decode Y_Mill_about.2.1 83 = .ok (.goto 4, 3) := by decide +kernel
theorem d_Mill_about_86 : decode Y_Mill_about.2.1 86 = .ok (.iconst 0, 1) := by decide +kernel
theorem d_Mill_about_87 : decode Y_Mill_about.2.1 87 = .ok (.ireturn, 1) := by decide +kernel
theorem d_Passage_lengthOf_0 : decode Y_Passage_lengthOf.2.1 0 = .ok (.aload_n 0, 1) := by decide +kernel
theorem d_Passage_lengthOf_1 : decode Y_Passage_lengthOf.2.1 1 = .ok (.getfield 17, 3) := by decide +kernel
theorem d_Passage_lengthOf_4 : decode Y_Passage_lengthOf.2.1 4 = .ok (.iload_n 1, 1) := by decide +kernel
theorem d_Passage_lengthOf_5 : decode Y_Passage_lengthOf.2.1 5 = .ok (.aaload, 1) := by decide +kernel
theorem d_Passage_lengthOf_6 : decode Y_Passage_lengthOf.2.1 6 = .ok (.astore_n 2, 1) := by decide +kernel
theorem d_Passage_lengthOf_7 : decode Y_Passage_lengthOf.2.1 7 = .ok (.aload_n 2, 1) := by decide +kernel
theorem d_Passage_lengthOf_8 : decode Y_Passage_lengthOf.2.1 8 = .ok (.ifnonnull 7, 3) := by decide +kernel
theorem d_Passage_lengthOf_11 : decode Y_Passage_lengthOf.2.1 11 = .ok (.iconst 0, 1) := by decide +kernel
theorem d_Passage_lengthOf_12 : decode Y_Passage_lengthOf.2.1 12 = .ok (.goto 9, 3) := by decide +kernel
theorem d_Passage_lengthOf_15 : decode Y_Passage_lengthOf.2.1 15 = .ok (.iconst 2, 1) := by decide +kernel
theorem d_Passage_lengthOf_16 : decode Y_Passage_lengthOf.2.1 16 = .ok (.aload_n 2, 1) := by decide +kernel
theorem d_Passage_lengthOf_17 : decode Y_Passage_lengthOf.2.1 17 = .ok (.getfield 58, 3) := by decide +kernel
theorem d_Passage_lengthOf_20 : decode Y_Passage_lengthOf.2.1 20 = .ok (.imul, 1) := by decide +kernel
theorem d_Passage_lengthOf_21 : decode Y_Passage_lengthOf.2.1 21 = .ok (.ireturn, 1) := by decide +kernel
theorem d_Passage_toldOf_0 : decode Y_Passage_toldOf.2.1 0 = .ok (.aload_n 0, 1) := by decide +kernel
theorem d_Passage_toldOf_1 : decode Y_Passage_toldOf.2.1 1 = .ok (.getfield 17, 3) := by decide +kernel
theorem d_Passage_toldOf_4 : decode Y_Passage_toldOf.2.1 4 = .ok (.iload_n 1, 1) := by decide +kernel
theorem d_Passage_toldOf_5 : decode Y_Passage_toldOf.2.1 5 = .ok (.aaload, 1) := by decide +kernel
theorem d_Passage_toldOf_6 : decode Y_Passage_toldOf.2.1 6 = .ok (.astore_n 3, 1) := by decide +kernel
theorem d_Passage_toldOf_7 : decode Y_Passage_toldOf.2.1 7 = .ok (.aload_n 3, 1) := by decide +kernel
theorem d_Passage_toldOf_8 : decode Y_Passage_toldOf.2.1 8 = .ok (.ifnull 17, 3) := by decide +kernel
theorem d_Passage_toldOf_11 : decode Y_Passage_toldOf.2.1 11 = .ok (.iload_n 2, 1) := by decide +kernel
theorem d_Passage_toldOf_12 : decode Y_Passage_toldOf.2.1 12 = .ok (.ifCond .lt 13, 3) := by decide +kernel
theorem d_Passage_toldOf_15 : decode Y_Passage_toldOf.2.1 15 = .ok (.iload_n 2, 1) := by decide +kernel
theorem d_Passage_toldOf_16 : decode Y_Passage_toldOf.2.1 16 = .ok (.iconst 2, 1) := by decide +kernel
theorem d_Passage_toldOf_17 : decode Y_Passage_toldOf.2.1 17 = .ok (.aload_n 3, 1) := by decide +kernel
theorem d_Passage_toldOf_18 : decode Y_Passage_toldOf.2.1 18 = .ok (.getfield 58, 3) := by decide +kernel
theorem d_Passage_toldOf_21 : decode Y_Passage_toldOf.2.1 21 = .ok (.imul, 1) := by decide +kernel
theorem d_Passage_toldOf_22 : decode Y_Passage_toldOf.2.1 22 = .ok (.if_icmp .lt 5, 3) := by decide +kernel
theorem d_Passage_toldOf_25 : decode Y_Passage_toldOf.2.1 25 = .ok (.iconst (-1), 1) := by decide +kernel
theorem d_Passage_toldOf_26 : decode Y_Passage_toldOf.2.1 26 = .ok (.ireturn, 1) := by decide +kernel
theorem d_Passage_toldOf_27 : decode Y_Passage_toldOf.2.1 27 = .ok (.aload_n 3, 1) := by decide +kernel
theorem d_Passage_toldOf_28 : decode Y_Passage_toldOf.2.1 28 = .ok (.iload_n 2, 1) := by decide +kernel
theorem d_Passage_toldOf_29 : decode Y_Passage_toldOf.2.1 29 = .ok (.iconst 2, 1) := by decide +kernel
theorem d_Passage_toldOf_30 : decode Y_Passage_toldOf.2.1 30 = .ok (.idiv, 1) := by decide +kernel
theorem d_Passage_toldOf_31 : decode Y_Passage_toldOf.2.1 31 = .ok (.invokevirtual 60, 3) := by decide +kernel
theorem d_Passage_toldOf_34 : decode Y_Passage_toldOf.2.1 34 = .ok (.astore 4, 2) := by decide +kernel
theorem d_Passage_toldOf_36 : decode Y_Passage_toldOf.2.1 36 = .ok (.iload_n 2, 1) := by decide +kernel
theorem d_Passage_toldOf_37 : decode Y_Passage_toldOf.2.1 37 = .ok (.iconst 2, 1) := by decide +kernel
theorem d_Passage_toldOf_38 : decode Y_Passage_toldOf.2.1 38 = .ok (.irem, 1) := by decide +kernel
theorem d_Passage_toldOf_39 : decode Y_Passage_toldOf.2.1 39 = .ok (.ifCond .ne 11, 3) := by decide +kernel
theorem d_Passage_toldOf_42 : decode Y_Passage_toldOf.2.1 42 = .ok (.aload 4, 2) := by decide +kernel
theorem d_Passage_toldOf_44 : decode Y_Passage_toldOf.2.1 44 = .ok (.getfield 64, 3) := by decide +kernel
theorem d_Passage_toldOf_47 : decode Y_Passage_toldOf.2.1 47 = .ok (.goto 8, 3) := by decide +kernel
theorem d_Passage_toldOf_50 : decode Y_Passage_toldOf.2.1 50 = .ok (.aload 4, 2) := by decide +kernel
theorem d_Passage_toldOf_52 : decode Y_Passage_toldOf.2.1 52 = .ok (.getfield 67, 3) := by decide +kernel
theorem d_Passage_toldOf_55 : decode Y_Passage_toldOf.2.1 55 = .ok (.ireturn, 1) := by decide +kernel
section MM
variable {E : gE} {d : Nat} {G : gS} {a aT aP aV aC aR aL ac aa ag : Nat} {mm mb mg : Int32} {fc fa fg : Nat → Int32}
abbrev tBad (x n : Int32) : Prop := ¬ (¬ x < 0 ∧ ¬ 16 ≤ x) ∨ n < 0 ∨ ¬ n ≤ 8
/-- type(x, n) -/
def pType (E : gE) (G : gS) (ac : Nat) (fc : Nat → Int32) (mm x n : Int32) : gO → gS → Prop := fun o G' =>
  if tBad x n then tIs "java/lang/IllegalArgumentException" G o G' else if ¬ mm = 0 ∨ tTold fc x then tIs "java/lang/IllegalStateException" G o G' else rIs none (gUp G ac (gAI E 16 (upd fc (tn x) n))) o G'
set_option maxHeartbeats 400000 in
set_option maxRecDepth 100000 in
theorem m_Mill_type (ha : G.1 a = some (.inr (12, [.ref aT, .ref aP, .ref aV, .ref aC, .ref aR, .ref aL, .int mm, .int mb, .int mg]))) (hT : G.1 aT = some (.inr (11, [.ref ac, .ref aa, .ref ag]))) (hc : G.1 ac = some (gAI E 16 fc)) (hF : gFit E G 1 6) (x n : Int32) : GM E Y_Mill_type (d + 10) [.ref a, .int x, .int n] G (pType E G ac fc mm x n) := by
  refine g_entry (by decide) (by simp [Value.category]) (Nat.le_of_ble_eq_true rfl) ?_
  refine g_aload_n d_Mill_type_0 rfl ?_
  refine g_getf kc_Mill fl_Mill_15 (by decide) ha rfl d_Mill_type_1 ?_
  refine g_iload_n d_Mill_type_4 rfl ?_
  refine c_Vr (as := [.int (x)]) kv_Types_canBe ml_Mill_49 rfl hT (m_Types_canBe x) rfl (Nat.le_of_ble_eq_true rfl) rfl d_Mill_type_5 rfl ?_
  refine g_if_eq (tgt := 21) d_Mill_type_8 (by decide) (fun c_8 => ?_) (fun c_8 => ?_)
  · have c_8 := b32_f c_8
    refine g_throw (th_Mill_IAE) d_Mill_type_21 d_Mill_type_24 d_Mill_type_25 d_Mill_type_28 rfl hF.1 hF.2 (by show 2 + 3 < _; omega) (Nat.le_of_ble_eq_true rfl) ?_
    intro k z1 z2
    simp only [pType, tBad, tTold, c_8, not_true_eq_false, not_false_eq_true, and_true, true_and, and_false, false_and, and_self, or_true, true_or, or_false, false_or, or_self, if_true, if_false, ite_true, ite_false]
    exact ⟨rfl, rfl, z1, z2, rfl⟩
  · have c_8 := b32_t c_8
    refine g_iload_n d_Mill_type_11 rfl ?_
    refine g_if_lt (tgt := 21) d_Mill_type_12 (by decide) (fun c_12 => ?_) (fun c_12 => ?_)
    · refine g_throw (th_Mill_IAE) d_Mill_type_21 d_Mill_type_24 d_Mill_type_25 d_Mill_type_28 rfl hF.1 hF.2 (by show 2 + 3 < _; omega) (Nat.le_of_ble_eq_true rfl) ?_
      intro k z1 z2
      simp only [pType, tBad, tTold, c_8, c_12, not_true_eq_false, not_false_eq_true, and_true, true_and, and_false, false_and, and_self, or_true, true_or, or_false, false_or, or_self, if_true, if_false, ite_true, ite_false]
      exact ⟨rfl, rfl, z1, z2, rfl⟩
    · refine g_iload_n d_Mill_type_15 rfl ?_
      refine g_bipush (v := 8) d_Mill_type_16 (by decide) ?_
      refine g_icmp_le (tgt := 29) d_Mill_type_18 (by decide) (fun c_18 => ?_) (fun c_18 => ?_)
      · refine g_aload_n d_Mill_type_29 rfl ?_
        refine g_getf kc_Mill fl_Mill_56 (by decide) ha rfl d_Mill_type_30 ?_
        refine g_if_ne (tgt := 47) d_Mill_type_33 (by decide) (fun c_33 => ?_) (fun c_33 => ?_)
        · refine g_throw (th_Mill_ISE) d_Mill_type_47 d_Mill_type_50 d_Mill_type_51 d_Mill_type_54 rfl hF.1 hF.2 (by show 2 + 3 < _; omega) (Nat.le_of_ble_eq_true rfl) ?_
          intro k z1 z2
          simp only [pType, tBad, tTold, c_8, c_12, c_18, c_33, not_true_eq_false, not_false_eq_true, and_true, true_and, and_false, false_and, and_self, or_true, true_or, or_false, false_or, or_self, if_true, if_false, ite_true, ite_false]
          exact ⟨rfl, rfl, z1, z2, rfl⟩
        · refine g_aload_n d_Mill_type_36 rfl ?_
          refine g_getf kc_Mill fl_Mill_15 (by decide) ha rfl d_Mill_type_37 ?_
          refine g_iload_n d_Mill_type_40 rfl ?_
          refine c_Vr (as := [.int (x)]) kv_Types_isTold ml_Mill_60 rfl hT (m_Types_isTold hT hc x) rfl (Nat.le_of_ble_eq_true rfl) rfl d_Mill_type_41 rfl ?_
          refine g_if_eq (tgt := 55) d_Mill_type_44 (by decide) (fun c_44 => ?_) (fun c_44 => ?_)
          · have c_44 := b32_f c_44
            refine g_aload_n d_Mill_type_55 rfl ?_
            refine g_getf kc_Mill fl_Mill_15 (by decide) ha rfl d_Mill_type_56 ?_
            refine g_iload_n d_Mill_type_59 rfl ?_
            refine g_iload_n d_Mill_type_60 rfl ?_
            refine c_Vr (as := [.int (x), .int (n)]) kv_Types_tell ml_Mill_66 rfl hT (m_Types_tell hT hc x n c_8.1 c_8.2) rfl (Nat.le_of_ble_eq_true rfl) rfl d_Mill_type_61 rfl ?_
            refine g_vret rfl d_Mill_type_64 ?_
            simp only [pType, tBad, c_8, c_12, c_18, c_33, c_44, not_true_eq_false, not_false_eq_true, and_true, true_and, and_false, false_and, and_self, or_true, true_or, or_false, false_or, or_self, if_true, if_false, ite_true, ite_false]
            exact ⟨rfl, rfl⟩
          · have c_44 := b32_t c_44
            refine g_throw (th_Mill_ISE) d_Mill_type_47 d_Mill_type_50 d_Mill_type_51 d_Mill_type_54 rfl hF.1 hF.2 (by show 2 + 3 < _; omega) (Nat.le_of_ble_eq_true rfl) ?_
            intro k z1 z2
            simp only [pType, tBad, tTold, c_8, c_12, c_18, c_33, c_44, not_true_eq_false, not_false_eq_true, and_true, true_and, and_false, false_and, and_self, or_true, true_or, or_false, false_or, or_self, if_true, if_false, ite_true, ite_false]
            exact ⟨rfl, rfl, z1, z2, rfl⟩
      · refine g_throw (th_Mill_IAE) d_Mill_type_21 d_Mill_type_24 d_Mill_type_25 d_Mill_type_28 rfl hF.1 hF.2 (by show 2 + 3 < _; omega) (Nat.le_of_ble_eq_true rfl) ?_
        intro k z1 z2
        simp only [pType, tBad, tTold, c_8, c_12, c_18, not_true_eq_false, not_false_eq_true, and_true, true_and, and_false, false_and, and_self, or_true, true_or, or_false, false_or, or_self, if_true, if_false, ite_true, ite_false]
        exact ⟨rfl, rfl, z1, z2, rfl⟩
set_option maxHeartbeats 400000 in
set_option maxRecDepth 100000 in
theorem m_Mill_argument_no (ha : G.1 a = some (.inr (12, [.ref aT, .ref aP, .ref aV, .ref aC, .ref aR, .ref aL, .int mm, .int mb, .int mg]))) (hT : G.1 aT = some (.inr (11, [.ref ac, .ref aa, .ref ag]))) (hc : G.1 ac = some (gAI E 16 fc)) (hF : gFit E G 1 6) (x c y : Int32) (hno : ¬ tHas fc x c) : GM E Y_Mill_argument (d + 10) [.ref a, .int x, .int c, .int y] G (tIs "java/lang/IllegalArgumentException" G) := by
  refine g_entry (by decide) (by simp [Value.category]) (Nat.le_of_ble_eq_true rfl) ?_
  refine g_aload_n d_Mill_argument_0 rfl ?_
  refine g_getf kc_Mill fl_Mill_15 (by decide) ha rfl d_Mill_argument_1 ?_
  refine g_iload_n d_Mill_argument_4 rfl ?_
  refine g_iload_n d_Mill_argument_5 rfl ?_
  refine c_Vr (as := [.int (x), .int (c)]) kv_Types_hasConstructor ml_Mill_70 rfl hT (m_Types_hasConstructor hT hc x c) rfl (Nat.le_of_ble_eq_true rfl) rfl d_Mill_argument_6 rfl ?_
  refine g_if_eq (tgt := 23) d_Mill_argument_9 (by decide) (fun c_9 => ?_) (fun c_9 => ?_)
  rotate_left
  · exact absurd c_9 (fun _ => absurd (b32_t c_9) hno)
  refine g_throw (th_Mill_IAE) d_Mill_argument_23 d_Mill_argument_26 d_Mill_argument_27 d_Mill_argument_30 rfl hF.1 hF.2 (by show 2 + 3 < _; omega) (Nat.le_of_ble_eq_true rfl) ?_
  intro k z1 z2
  exact ⟨rfl, rfl, z1, z2, rfl⟩
theorem xw_mw {E : gE} {G : gS} {a m n : Nat} {c : cS} {s : mS} (h1 : a + 24 ≤ m) (h2 : m < n) : mW E (xW E G a c) m n s = xW E (mW E G m n s) a c := by
  refine Prod.ext (funext fun q => ?_) rfl
  simp only [mW, xW]
  by_cases e : a ≤ q ∧ q < a + 24
  · rw [if_neg (by omega), if_neg (by omega), if_pos e, if_pos e]
  · rw [if_neg e, if_neg e]
/-- type, in the class's world -/
def kType (c : cS) (x n : Int32) : String ⊕ cS := if tBad x n then .inl "java/lang/IllegalArgumentException" else if ¬ c.1 0 = 0 ∨ tTold (c.2.1 0) x then .inl "java/lang/IllegalStateException" else .inr (cA c 0 (tn x) n)
/-- an end without an answer: thrown, or the new state -/
def xEnd (E : gE) (G : gS) (a : Nat) (c : cS) (r : String ⊕ cS) : gO → gS → Prop := match r with
  | .inl C => tIs C (xW E G a c)
  | .inr c' => rIs none (xW E G a c')
theorem m_X_type {c : cS} (hF : gFit E (xW E G a c) 1 6) (x n : Int32) : GM E Y_Mill_type (d + 10) [.ref a, .int x, .int n] (xW E G a c) (xEnd E G a c (kType c x n)) := by
  refine (m_Mill_type (E := E) (d := d) (G := xW E G a c) (a := a) (aT := a + 1) (ac := a + 2) (aa := a + 3) (ag := a + 4) (fc := c.2.1 0) (mm := c.1 0) (x_at (k := 0) (by decide) rfl) (x_at (k := 1) (by decide) rfl) (x_at (k := 2) (by decide) rfl) hF x n).mono (fun o G' h => ?_)
  unfold pType at h
  unfold kType
  by_cases c1 : tBad x n
  · rw [if_pos c1] at h ⊢
    exact h
  · rw [if_neg c1] at h ⊢
    by_cases c2 : ¬ c.1 0 = 0 ∨ tTold (c.2.1 0) x
    · rw [if_pos c2] at h ⊢
      exact h
    · rw [if_neg c2] at h ⊢
      have e := x_up (E := E) (G := G) (a := a) (c := c) (c' := cA c 0 (tn x) n) (k := 2) (y := gAI E 16 (upd (c.2.1 0) (tn x) n)) (by decide) rfl xf_A0
      rw [e] at h
      exact h
end MM

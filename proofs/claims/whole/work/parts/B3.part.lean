/-! Rows.part -/
theorem d_Rows_part_0 : decode Y_Rows_part.2.1 0 = .ok (.iload_n 2, 1) := by decide +kernel
theorem d_Rows_part_1 : decode Y_Rows_part.2.1 1 = .ok (.istore_n 3, 1) := by decide +kernel
theorem d_Rows_part_2 : decode Y_Rows_part.2.1 2 = .ok (.iload_n 3, 1) := by decide +kernel
theorem d_Rows_part_3 : decode Y_Rows_part.2.1 3 = .ok (.aload_n 0, 1) := by decide +kernel
theorem d_Rows_part_4 : decode Y_Rows_part.2.1 4 = .ok (.getfield 18, 3) := by decide +kernel
theorem d_Rows_part_7 : decode Y_Rows_part.2.1 7 = .ok (.if_icmp .ge 106, 3) := by decide +kernel
theorem d_Rows_part_10 : decode Y_Rows_part.2.1 10 = .ok (.iload_n 3, 1) := by decide +kernel
theorem d_Rows_part_11 : decode Y_Rows_part.2.1 11 = .ok (.iload_n 1, 1) := by decide +kernel
theorem d_Rows_part_12 : decode Y_Rows_part.2.1 12 = .ok (.bipush 80, 2) := by decide +kernel
theorem d_Rows_part_14 : decode Y_Rows_part.2.1 14 = .ok (.iadd, 1) := by decide +kernel
theorem d_Rows_part_15 : decode Y_Rows_part.2.1 15 = .ok (.if_icmp .ge 98, 3) := by decide +kernel
theorem d_Rows_part_18 : decode Y_Rows_part.2.1 18 = .ok (.aload_n 0, 1) := by decide +kernel
theorem d_Rows_part_19 : decode Y_Rows_part.2.1 19 = .ok (.getfield 12, 3) := by decide +kernel
theorem d_Rows_part_22 : decode Y_Rows_part.2.1 22 = .ok (.iload_n 3, 1) := by decide +kernel
theorem d_Rows_part_23 : decode Y_Rows_part.2.1 23 = .ok (.invokevirtual 28, 3) := by decide +kernel
theorem d_Rows_part_26 : decode Y_Rows_part.2.1 26 = .ok (.checkcast 32, 3) := by decide +kernel
theorem d_Rows_part_29 : decode Y_Rows_part.2.1 29 = .ok (.astore 4, 2) := by decide +kernel
theorem d_Rows_part_31 : decode Y_Rows_part.2.1 31 = .ok (.aload 4, 2) := by decide +kernel
theorem d_Rows_part_33 : decode Y_Rows_part.2.1 33 = .ok (.invokevirtual 90, 3) := by decide +kernel
theorem d_Rows_part_36 : decode Y_Rows_part.2.1 36 = .ok (.istore 5, 2) := by decide +kernel
theorem d_Rows_part_38 : decode Y_Rows_part.2.1 38 = .ok (.iconst 0, 1) := by decide +kernel
theorem d_Rows_part_39 : decode Y_Rows_part.2.1 39 = .ok (.istore 6, 2) := by decide +kernel
theorem d_Rows_part_41 : decode Y_Rows_part.2.1 41 = .ok (.iload 6, 2) := by decide +kernel
theorem d_Rows_part_43 : decode Y_Rows_part.2.1 43 = .ok (.bipush 80, 2) := by decide +kernel
theorem d_Rows_part_45 : decode Y_Rows_part.2.1 45 = .ok (.if_icmp .ge 62, 3) := by decide +kernel
theorem d_Rows_part_48 : decode Y_Rows_part.2.1 48 = .ok (.iload 5, 2) := by decide +kernel
theorem d_Rows_part_50 : decode Y_Rows_part.2.1 50 = .ok (.iconst (-1), 1) := by decide +kernel
theorem d_Rows_part_51 : decode Y_Rows_part.2.1 51 = .ok (.if_icmp .eq 56, 3) := by decide +kernel
theorem d_Rows_part_54 : decode Y_Rows_part.2.1 54 = .ok (.aload_n 0, 1) := by decide +kernel
theorem d_Rows_part_55 : decode Y_Rows_part.2.1 55 = .ok (.iload_n 1, 1) := by decide +kernel
theorem d_Rows_part_56 : decode Y_Rows_part.2.1 56 = .ok (.iload_n 3, 1) := by decide +kernel
theorem d_Rows_part_57 : decode Y_Rows_part.2.1 57 = .ok (.iconst 1, 1) := by decide +kernel
theorem d_Rows_part_58 : decode Y_Rows_part.2.1 58 = .ok (.iadd, 1) := by decide +kernel
theorem d_Rows_part_59 : decode Y_Rows_part.2.1 59 = .ok (.invokevirtual 40, 3) := by decide +kernel
theorem d_Rows_part_62 : decode Y_Rows_part.2.1 62 = .ok (.astore 7, 2) := by decide +kernel
theorem d_Rows_part_64 : decode Y_Rows_part.2.1 64 = .ok (.aload 7, 2) := by decide +kernel
theorem d_Rows_part_66 : decode Y_Rows_part.2.1 66 = .ok (.ifnonnull 5, 3) := by decide +kernel
theorem d_Rows_part_69 : decode Y_Rows_part.2.1 69 = .ok (.iconst 0, 1) := by decide +kernel
theorem d_Rows_part_70 : decode Y_Rows_part.2.1 70 = .ok (.ireturn, 1) := by decide +kernel
theorem d_Rows_part_71 : decode Y_Rows_part.2.1 71 = .ok (.aload 7, 2) := by decide +kernel
theorem d_Rows_part_73 : decode Y_Rows_part.2.1 73 = .ok (.aload 4, 2) := by decide +kernel
theorem d_Rows_part_75 : decode Y_Rows_part.2.1 75 = .ok (.invokevirtual 79, 3) := by decide +kernel
theorem d_Rows_part_78 : decode Y_Rows_part.2.1 78 = .ok (.aload 4, 2) := by decide +kernel
theorem d_Rows_part_80 : decode Y_Rows_part.2.1 80 = .ok (.iload 5, 2) := by decide +kernel
theorem d_Rows_part_82 : decode Y_Rows_part.2.1 82 = .ok (.iconst 0, 1) := by decide +kernel
theorem d_Rows_part_83 : decode Y_Rows_part.2.1 83 = .ok (.invokevirtual 93, 3) := by decide +kernel
theorem d_Rows_part_86 : decode Y_Rows_part.2.1 86 = .ok (.aload 7, 2) := by decide +kernel
theorem d_Rows_part_88 : decode Y_Rows_part.2.1 88 = .ok (.iload 5, 2) := by decide +kernel
theorem d_Rows_part_90 : decode Y_Rows_part.2.1 90 = .ok (.iconst 1, 1) := by decide +kernel
theorem d_Rows_part_91 : decode Y_Rows_part.2.1 91 = .ok (.invokevirtual 93, 3) := by decide +kernel
theorem d_Rows_part_94 : decode Y_Rows_part.2.1 94 = .ok (.aload 4, 2) := by decide +kernel
theorem d_Rows_part_96 : decode Y_Rows_part.2.1 96 = .ok (.invokevirtual 90, 3) := by decide +kernel
theorem d_Rows_part_99 : decode Y_Rows_part.2.1 99 = .ok (.istore 5, 2) := by decide +kernel
theorem d_Rows_part_101 : decode Y_Rows_part.2.1 101 = .ok (.iinc 6 1, 3) := by decide +kernel
theorem d_Rows_part_104 : decode Y_Rows_part.2.1 104 = .ok (.goto (-63), 3) := by decide +kernel
theorem d_Rows_part_107 : decode Y_Rows_part.2.1 107 = .ok (.iinc 3 1, 3) := by decide +kernel
theorem d_Rows_part_110 : decode Y_Rows_part.2.1 110 = .ok (.goto (-108), 3) := by decide +kernel
theorem d_Rows_part_113 : decode Y_Rows_part.2.1 113 = .ok (.iconst 1, 1) := by decide +kernel
theorem d_Rows_part_114 : decode Y_Rows_part.2.1 114 = .ok (.ireturn, 1) := by decide +kernel
theorem d_Rows_putCases_0 : decode Y_Rows_putCases.2.1 0 = .ok (.aload_n 0, 1) := by decide +kernel
theorem d_Rows_putCases_1 : decode Y_Rows_putCases.2.1 1 = .ok (.getfield 18, 3) := by decide +kernel
theorem d_Rows_putCases_4 : decode Y_Rows_putCases.2.1 4 = .ok (.istore_n 2, 1) := by decide +kernel
theorem d_Rows_putCases_5 : decode Y_Rows_putCases.2.1 5 = .ok (.iconst 0, 1) := by decide +kernel
theorem d_Rows_putCases_6 : decode Y_Rows_putCases.2.1 6 = .ok (.istore_n 3, 1) := by decide +kernel
theorem d_Rows_putCases_7 : decode Y_Rows_putCases.2.1 7 = .ok (.iload_n 3, 1) := by decide +kernel
theorem d_Rows_putCases_8 : decode Y_Rows_putCases.2.1 8 = .ok (.aload_n 1, 1) := by decide +kernel
theorem d_Rows_putCases_9 : decode Y_Rows_putCases.2.1 9 = .ok (.invokevirtual 34, 3) := by decide +kernel
theorem d_Rows_putCases_12 : decode Y_Rows_putCases.2.1 12 = .ok (.if_icmp .ge 54, 3) := by decide +kernel
theorem d_Rows_putCases_15 : decode Y_Rows_putCases.2.1 15 = .ok (.aload_n 0, 1) := by decide +kernel
theorem d_Rows_putCases_16 : decode Y_Rows_putCases.2.1 16 = .ok (.getfield 18, 3) := by decide +kernel
theorem d_Rows_putCases_19 : decode Y_Rows_putCases.2.1 19 = .ok (.istore 4, 2) := by decide +kernel
theorem d_Rows_putCases_21 : decode Y_Rows_putCases.2.1 21 = .ok (.aload_n 0, 1) := by decide +kernel
theorem d_Rows_putCases_22 : decode Y_Rows_putCases.2.1 22 = .ok (.iload_n 2, 1) := by decide +kernel
theorem d_Rows_putCases_23 : decode Y_Rows_putCases.2.1 23 = .ok (.iload 4, 2) := by decide +kernel
theorem d_Rows_putCases_25 : decode Y_Rows_putCases.2.1 25 = .ok (.invokevirtual 40, 3) := by decide +kernel
theorem d_Rows_putCases_28 : decode Y_Rows_putCases.2.1 28 = .ok (.astore 5, 2) := by decide +kernel
theorem d_Rows_putCases_30 : decode Y_Rows_putCases.2.1 30 = .ok (.aload 5, 2) := by decide +kernel
theorem d_Rows_putCases_32 : decode Y_Rows_putCases.2.1 32 = .ok (.ifnonnull 5, 3) := by decide +kernel
theorem d_Rows_putCases_35 : decode Y_Rows_putCases.2.1 35 = .ok (.iconst 0, 1) := by decide +kernel
theorem d_Rows_putCases_36 : decode Y_Rows_putCases.2.1 36 = .ok (.ireturn, 1) := by decide +kernel
theorem d_Rows_putCases_37 : decode Y_Rows_putCases.2.1 37 = .ok (.aload 5, 2) := by decide +kernel
theorem d_Rows_putCases_39 : decode Y_Rows_putCases.2.1 39 = .ok (.iload_n 3, 1) := by decide +kernel
theorem d_Rows_putCases_40 : decode Y_Rows_putCases.2.1 40 = .ok (.aload_n 1, 1) := by decide +kernel
theorem d_Rows_putCases_41 : decode Y_Rows_putCases.2.1 41 = .ok (.iload_n 3, 1) := by decide +kernel
theorem d_Rows_putCases_42 : decode Y_Rows_putCases.2.1 42 = .ok (.invokevirtual 44, 3) := by decide +kernel
theorem d_Rows_putCases_45 : decode Y_Rows_putCases.2.1 45 = .ok (.invokevirtual 48, 3) := by decide +kernel
theorem d_Rows_putCases_48 : decode Y_Rows_putCases.2.1 48 = .ok (.aload_n 0, 1) := by decide +kernel
theorem d_Rows_putCases_49 : decode Y_Rows_putCases.2.1 49 = .ok (.iload_n 2, 1) := by decide +kernel
theorem d_Rows_putCases_50 : decode Y_Rows_putCases.2.1 50 = .ok (.iload 4, 2) := by decide +kernel
theorem d_Rows_putCases_52 : decode Y_Rows_putCases.2.1 52 = .ok (.invokevirtual 52, 3) := by decide +kernel
theorem d_Rows_putCases_55 : decode Y_Rows_putCases.2.1 55 = .ok (.ifCond .ne 5, 3) := by decide +kernel
theorem d_Rows_putCases_58 : decode Y_Rows_putCases.2.1 58 = .ok (.iconst 0, 1) := by decide +kernel
theorem d_Rows_putCases_59 : decode Y_Rows_putCases.2.1 59 = .ok (.ireturn, 1) := by decide +kernel
theorem d_Rows_putCases_60 : decode Y_Rows_putCases.2.1 60 = .ok (.iinc 3 1, 3) := by decide +kernel
theorem d_Rows_putCases_63 : decode Y_Rows_putCases.2.1 63 = .ok (.goto (-56), 3) := by decide +kernel
theorem d_Rows_putCases_66 : decode Y_Rows_putCases.2.1 66 = .ok (.iconst 1, 1) := by decide +kernel
theorem d_Rows_putCases_67 : decode Y_Rows_putCases.2.1 67 = .ok (.ireturn, 1) := by decide +kernel
theorem d_Rows_putAnswer_0 : decode Y_Rows_putAnswer.2.1 0 = .ok (.aload_n 0, 1) := by decide +kernel
theorem d_Rows_putAnswer_1 : decode Y_Rows_putAnswer.2.1 1 = .ok (.getfield 18, 3) := by decide +kernel
theorem d_Rows_putAnswer_4 : decode Y_Rows_putAnswer.2.1 4 = .ok (.istore_n 3, 1) := by decide +kernel
theorem d_Rows_putAnswer_5 : decode Y_Rows_putAnswer.2.1 5 = .ok (.aload_n 1, 1) := by decide +kernel
theorem d_Rows_putAnswer_6 : decode Y_Rows_putAnswer.2.1 6 = .ok (.getfield 56, 3) := by decide +kernel
theorem d_Rows_putAnswer_9 : decode Y_Rows_putAnswer.2.1 9 = .ok (.aload_n 1, 1) := by decide +kernel
theorem d_Rows_putAnswer_10 : decode Y_Rows_putAnswer.2.1 10 = .ok (.getfield 61, 3) := by decide +kernel
theorem d_Rows_putAnswer_13 : decode Y_Rows_putAnswer.2.1 13 = .ok (.iadd, 1) := by decide +kernel
theorem d_Rows_putAnswer_14 : decode Y_Rows_putAnswer.2.1 14 = .ok (.istore 4, 2) := by decide +kernel
theorem d_Rows_putAnswer_16 : decode Y_Rows_putAnswer.2.1 16 = .ok (.aload_n 1, 1) := by decide +kernel
theorem d_Rows_putAnswer_17 : decode Y_Rows_putAnswer.2.1 17 = .ok (.getfield 56, 3) := by decide +kernel
theorem d_Rows_putAnswer_20 : decode Y_Rows_putAnswer.2.1 20 = .ok (.istore 5, 2) := by decide +kernel
theorem d_Rows_putAnswer_22 : decode Y_Rows_putAnswer.2.1 22 = .ok (.iload 5, 2) := by decide +kernel
theorem d_Rows_putAnswer_24 : decode Y_Rows_putAnswer.2.1 24 = .ok (.iload 4, 2) := by decide +kernel
theorem d_Rows_putAnswer_26 : decode Y_Rows_putAnswer.2.1 26 = .ok (.if_icmp .ge 116, 3) := by decide +kernel
theorem d_Rows_putAnswer_29 : decode Y_Rows_putAnswer.2.1 29 = .ok (.aload_n 0, 1) := by decide +kernel
theorem d_Rows_putAnswer_30 : decode Y_Rows_putAnswer.2.1 30 = .ok (.getfield 12, 3) := by decide +kernel
theorem d_Rows_putAnswer_33 : decode Y_Rows_putAnswer.2.1 33 = .ok (.iload 5, 2) := by decide +kernel
theorem d_Rows_putAnswer_35 : decode Y_Rows_putAnswer.2.1 35 = .ok (.invokevirtual 28, 3) := by decide +kernel
theorem d_Rows_putAnswer_38 : decode Y_Rows_putAnswer.2.1 38 = .ok (.checkcast 32, 3) := by decide +kernel
theorem d_Rows_putAnswer_41 : decode Y_Rows_putAnswer.2.1 41 = .ok (.astore 6, 2) := by decide +kernel
theorem d_Rows_putAnswer_43 : decode Y_Rows_putAnswer.2.1 43 = .ok (.aload 6, 2) := by decide +kernel
theorem d_Rows_putAnswer_45 : decode Y_Rows_putAnswer.2.1 45 = .ok (.aload_n 1, 1) := by decide +kernel
theorem d_Rows_putAnswer_46 : decode Y_Rows_putAnswer.2.1 46 = .ok (.getfield 63, 3) := by decide +kernel
theorem d_Rows_putAnswer_49 : decode Y_Rows_putAnswer.2.1 49 = .ok (.invokevirtual 66, 3) := by decide +kernel
theorem d_Rows_putAnswer_52 : decode Y_Rows_putAnswer.2.1 52 = .ok (.istore 7, 2) := by decide +kernel
theorem d_Rows_putAnswer_54 : decode Y_Rows_putAnswer.2.1 54 = .ok (.iload 7, 2) := by decide +kernel
theorem d_Rows_putAnswer_56 : decode Y_Rows_putAnswer.2.1 56 = .ok (.iconst (-1), 1) := by decide +kernel
theorem d_Rows_putAnswer_57 : decode Y_Rows_putAnswer.2.1 57 = .ok (.if_icmp .eq 21, 3) := by decide +kernel
theorem d_Rows_putAnswer_60 : decode Y_Rows_putAnswer.2.1 60 = .ok (.aload 6, 2) := by decide +kernel
theorem d_Rows_putAnswer_62 : decode Y_Rows_putAnswer.2.1 62 = .ok (.getfield 70, 3) := by decide +kernel
theorem d_Rows_putAnswer_65 : decode Y_Rows_putAnswer.2.1 65 = .ok (.iload 7, 2) := by decide +kernel
theorem d_Rows_putAnswer_67 : decode Y_Rows_putAnswer.2.1 67 = .ok (.aaload, 1) := by decide +kernel
theorem d_Rows_putAnswer_68 : decode Y_Rows_putAnswer.2.1 68 = .ok (.getfield 74, 3) := by decide +kernel
theorem d_Rows_putAnswer_71 : decode Y_Rows_putAnswer.2.1 71 = .ok (.iload_n 2, 1) := by decide +kernel
theorem d_Rows_putAnswer_72 : decode Y_Rows_putAnswer.2.1 72 = .ok (.if_icmp .eq 6, 3) := by decide +kernel
theorem d_Rows_putAnswer_75 : decode Y_Rows_putAnswer.2.1 75 = .ok (.goto 61, 3) := by decide +kernel
theorem d_Rows_putAnswer_78 : decode Y_Rows_putAnswer.2.1 78 = .ok (.aload_n 0, 1) := by decide +kernel
theorem d_Rows_putAnswer_79 : decode Y_Rows_putAnswer.2.1 79 = .ok (.getfield 18, 3) := by decide +kernel
theorem d_Rows_putAnswer_82 : decode Y_Rows_putAnswer.2.1 82 = .ok (.istore 8, 2) := by decide +kernel
theorem d_Rows_putAnswer_84 : decode Y_Rows_putAnswer.2.1 84 = .ok (.aload_n 0, 1) := by decide +kernel
theorem d_Rows_putAnswer_85 : decode Y_Rows_putAnswer.2.1 85 = .ok (.iload_n 3, 1) := by decide +kernel
theorem d_Rows_putAnswer_86 : decode Y_Rows_putAnswer.2.1 86 = .ok (.iload 8, 2) := by decide +kernel
theorem d_Rows_putAnswer_88 : decode Y_Rows_putAnswer.2.1 88 = .ok (.invokevirtual 40, 3) := by decide +kernel
theorem d_Rows_putAnswer_91 : decode Y_Rows_putAnswer.2.1 91 = .ok (.astore 9, 2) := by decide +kernel
theorem d_Rows_putAnswer_93 : decode Y_Rows_putAnswer.2.1 93 = .ok (.aload 9, 2) := by decide +kernel
theorem d_Rows_putAnswer_95 : decode Y_Rows_putAnswer.2.1 95 = .ok (.ifnonnull 5, 3) := by decide +kernel
theorem d_Rows_putAnswer_98 : decode Y_Rows_putAnswer.2.1 98 = .ok (.iconst 0, 1) := by decide +kernel
theorem d_Rows_putAnswer_99 : decode Y_Rows_putAnswer.2.1 99 = .ok (.ireturn, 1) := by decide +kernel
theorem d_Rows_putAnswer_100 : decode Y_Rows_putAnswer.2.1 100 = .ok (.aload 9, 2) := by decide +kernel
theorem d_Rows_putAnswer_102 : decode Y_Rows_putAnswer.2.1 102 = .ok (.aload 6, 2) := by decide +kernel
theorem d_Rows_putAnswer_104 : decode Y_Rows_putAnswer.2.1 104 = .ok (.invokevirtual 79, 3) := by decide +kernel
theorem d_Rows_putAnswer_107 : decode Y_Rows_putAnswer.2.1 107 = .ok (.iload 7, 2) := by decide +kernel
theorem d_Rows_putAnswer_109 : decode Y_Rows_putAnswer.2.1 109 = .ok (.iconst (-1), 1) := by decide +kernel
theorem d_Rows_putAnswer_110 : decode Y_Rows_putAnswer.2.1 110 = .ok (.if_icmp .eq 26, 3) := by decide +kernel
theorem d_Rows_putAnswer_113 : decode Y_Rows_putAnswer.2.1 113 = .ok (.aload 9, 2) := by decide +kernel
theorem d_Rows_putAnswer_115 : decode Y_Rows_putAnswer.2.1 115 = .ok (.iload 7, 2) := by decide +kernel
theorem d_Rows_putAnswer_117 : decode Y_Rows_putAnswer.2.1 117 = .ok (.aload_n 1, 1) := by decide +kernel
theorem d_Rows_putAnswer_118 : decode Y_Rows_putAnswer.2.1 118 = .ok (.getfield 83, 3) := by decide +kernel
theorem d_Rows_putAnswer_121 : decode Y_Rows_putAnswer.2.1 121 = .ok (.invokevirtual 86, 3) := by decide +kernel
theorem d_Rows_putAnswer_124 : decode Y_Rows_putAnswer.2.1 124 = .ok (.aload_n 0, 1) := by decide +kernel
theorem d_Rows_putAnswer_125 : decode Y_Rows_putAnswer.2.1 125 = .ok (.iload_n 3, 1) := by decide +kernel
theorem d_Rows_putAnswer_126 : decode Y_Rows_putAnswer.2.1 126 = .ok (.iload 8, 2) := by decide +kernel
theorem d_Rows_putAnswer_128 : decode Y_Rows_putAnswer.2.1 128 = .ok (.invokevirtual 52, 3) := by decide +kernel
theorem d_Rows_putAnswer_131 : decode Y_Rows_putAnswer.2.1 131 = .ok (.ifCond .ne 5, 3) := by decide +kernel
theorem d_Rows_putAnswer_134 : decode Y_Rows_putAnswer.2.1 134 = .ok (.iconst 0, 1) := by decide +kernel
theorem d_Rows_putAnswer_135 : decode Y_Rows_putAnswer.2.1 135 = .ok (.ireturn, 1) := by decide +kernel
theorem d_Rows_putAnswer_136 : decode Y_Rows_putAnswer.2.1 136 = .ok (.iinc 5 1, 3) := by decide +kernel
theorem d_Rows_putAnswer_139 : decode Y_Rows_putAnswer.2.1 139 = .ok (.goto (-117), 3) := by decide +kernel
theorem d_Rows_putAnswer_142 : decode Y_Rows_putAnswer.2.1 142 = .ok (.iconst 1, 1) := by decide +kernel
theorem d_Rows_putAnswer_143 : decode Y_Rows_putAnswer.2.1 143 = .ok (.ireturn, 1) := by decide +kernel
theorem d_Rows_leaveOut_0 : decode Y_Rows_leaveOut.2.1 0 = .ok (.iload_n 1, 1) := by decide +kernel
theorem d_Rows_leaveOut_1 : decode Y_Rows_leaveOut.2.1 1 = .ok (.istore_n 3, 1) := by decide +kernel
theorem d_Rows_leaveOut_2 : decode Y_Rows_leaveOut.2.1 2 = .ok (.iload_n 1, 1) := by decide +kernel
theorem d_Rows_leaveOut_3 : decode Y_Rows_leaveOut.2.1 3 = .ok (.istore 4, 2) := by decide +kernel
theorem d_Rows_leaveOut_5 : decode Y_Rows_leaveOut.2.1 5 = .ok (.iload 4, 2) := by decide +kernel
theorem d_Rows_leaveOut_7 : decode Y_Rows_leaveOut.2.1 7 = .ok (.aload_n 0, 1) := by decide +kernel
theorem d_Rows_leaveOut_8 : decode Y_Rows_leaveOut.2.1 8 = .ok (.getfield 18, 3) := by decide +kernel
theorem d_Rows_leaveOut_11 : decode Y_Rows_leaveOut.2.1 11 = .ok (.if_icmp .ge 67, 3) := by decide +kernel
theorem d_Rows_leaveOut_14 : decode Y_Rows_leaveOut.2.1 14 = .ok (.aload_n 0, 1) := by decide +kernel
theorem d_Rows_leaveOut_15 : decode Y_Rows_leaveOut.2.1 15 = .ok (.getfield 12, 3) := by decide +kernel
theorem d_Rows_leaveOut_18 : decode Y_Rows_leaveOut.2.1 18 = .ok (.iload 4, 2) := by decide +kernel
theorem d_Rows_leaveOut_20 : decode Y_Rows_leaveOut.2.1 20 = .ok (.invokevirtual 28, 3) := by decide +kernel
theorem d_Rows_leaveOut_23 : decode Y_Rows_leaveOut.2.1 23 = .ok (.checkcast 32, 3) := by decide +kernel
theorem d_Rows_leaveOut_26 : decode Y_Rows_leaveOut.2.1 26 = .ok (.astore 5, 2) := by decide +kernel
theorem d_Rows_leaveOut_28 : decode Y_Rows_leaveOut.2.1 28 = .ok (.aload 5, 2) := by decide +kernel
theorem d_Rows_leaveOut_30 : decode Y_Rows_leaveOut.2.1 30 = .ok (.getfield 108, 3) := by decide +kernel
theorem d_Rows_leaveOut_33 : decode Y_Rows_leaveOut.2.1 33 = .ok (.iload_n 2, 1) := by decide +kernel
theorem d_Rows_leaveOut_34 : decode Y_Rows_leaveOut.2.1 34 = .ok (.if_icmp .eq 38, 3) := by decide +kernel
theorem d_Rows_leaveOut_37 : decode Y_Rows_leaveOut.2.1 37 = .ok (.aload_n 0, 1) := by decide +kernel
theorem d_Rows_leaveOut_38 : decode Y_Rows_leaveOut.2.1 38 = .ok (.getfield 12, 3) := by decide +kernel
theorem d_Rows_leaveOut_41 : decode Y_Rows_leaveOut.2.1 41 = .ok (.iload 4, 2) := by decide +kernel
theorem d_Rows_leaveOut_43 : decode Y_Rows_leaveOut.2.1 43 = .ok (.aload_n 0, 1) := by decide +kernel
theorem d_Rows_leaveOut_44 : decode Y_Rows_leaveOut.2.1 44 = .ok (.getfield 12, 3) := by decide +kernel
theorem d_Rows_leaveOut_47 : decode Y_Rows_leaveOut.2.1 47 = .ok (.iload_n 3, 1) := by decide +kernel
theorem d_Rows_leaveOut_48 : decode Y_Rows_leaveOut.2.1 48 = .ok (.invokevirtual 28, 3) := by decide +kernel
theorem d_Rows_leaveOut_51 : decode Y_Rows_leaveOut.2.1 51 = .ok (.checkcast 32, 3) := by decide +kernel
theorem d_Rows_leaveOut_54 : decode Y_Rows_leaveOut.2.1 54 = .ok (.invokevirtual 111, 3) := by decide +kernel
theorem d_Rows_leaveOut_57 : decode Y_Rows_leaveOut.2.1 57 = .ok (.pop, 1) := by decide +kernel
theorem d_Rows_leaveOut_58 : decode Y_Rows_leaveOut.2.1 58 = .ok (.aload_n 0, 1) := by decide +kernel
theorem d_Rows_leaveOut_59 : decode Y_Rows_leaveOut.2.1 59 = .ok (.getfield 12, 3) := by decide +kernel
theorem d_Rows_leaveOut_62 : decode Y_Rows_leaveOut.2.1 62 = .ok (.iload_n 3, 1) := by decide +kernel
theorem d_Rows_leaveOut_63 : decode Y_Rows_leaveOut.2.1 63 = .ok (.aload 5, 2) := by decide +kernel
theorem d_Rows_leaveOut_65 : decode Y_Rows_leaveOut.2.1 65 = .ok (.invokevirtual 111, 3) := by decide +kernel
theorem d_Rows_leaveOut_68 : decode Y_Rows_leaveOut.2.1 68 = .ok (.pop, 1) := by decide +kernel
theorem d_Rows_leaveOut_69 : decode Y_Rows_leaveOut.2.1 69 = .ok (.iinc 3 1, 3) := by decide +kernel
theorem d_Rows_leaveOut_72 : decode Y_Rows_leaveOut.2.1 72 = .ok (.iinc 4 1, 3) := by decide +kernel
theorem d_Rows_leaveOut_75 : decode Y_Rows_leaveOut.2.1 75 = .ok (.goto (-70), 3) := by decide +kernel
theorem d_Rows_leaveOut_78 : decode Y_Rows_leaveOut.2.1 78 = .ok (.aload_n 0, 1) := by decide +kernel
theorem d_Rows_leaveOut_79 : decode Y_Rows_leaveOut.2.1 79 = .ok (.iload_n 3, 1) := by decide +kernel
theorem d_Rows_leaveOut_80 : decode Y_Rows_leaveOut.2.1 80 = .ok (.putfield 18, 3) := by decide +kernel
theorem d_Rows_leaveOut_83 : decode Y_Rows_leaveOut.2.1 83 = .ok (.return_, 1) := by decide +kernel
section BY
variable {E : gE} {d : Nat} {G G0 : gS} {a : Nat} {c c' c0 : cS} {u u' u0 : uS} {n n' n0 sl sl' : Nat} {Q : gO → gS → Prop} {Nb Sb : Nat} {P : Nat → Nat → Int32} {N : Nat} {tm : Nat → Nat} {ob : Nat → Int32} {T : Nat → Prop} {b : Nat} {x : xS}
theorem xOf_at : xOf (uR u b x) b = x := by
  unfold xOf
  rw [uR0, uR1, uR2, uR3]
theorem xOf_ne {b2 : Nat} (h : b2 + 4 ≤ b ∨ b + 4 ≤ b2) : xOf (uR u b x) b2 = xOf u b2 := by
  unfold xOf
  rw [(uRo (u := u) (b := b) (x := x) (q := b2) (by omega)).1, (uRo (u := u) (b := b) (x := x) (q := b2 + 1) (by omega)).1, (uRo (u := u) (b := b) (x := x) (q := b2 + 2) (by omega)).2, (uRo (u := u) (b := b) (x := x) (q := b2 + 3) (by omega)).1]
theorem row_out {q k : Nat} (hw : rowW u a b) (hq : u.1 q = k) (hk : 5 ≤ k ∨ k = 0) : q < b ∨ b + 4 ≤ q := by
  have e : ∀ j, u.1 (b + j) = j + 1 → j < 4 → q ≠ b + j := fun j hj h4 e => by
    rw [e, hj] at hq
    omega
  have e0 := e 0 hw.1.1 (by decide)
  have e1 := e 1 hw.2.1.1 (by decide)
  have e2 := e 2 hw.2.2.1.1 (by decide)
  have e3 := e 3 hw.2.2.2.1 (by decide)
  omega
theorem rFr_uR (hw : rowW u a b) : rFr u (uR u b x) n := ⟨fun _ _ => rfl, fun q _ h5 _ => by
  have := uRo (u := u) (x := x) (row_out hw rfl (Or.inl h5))
  exact ⟨rfl, this.1, this.2⟩⟩
theorem rw_uR {ks sp : List Nat} (h : rwOk E a Nb Sb c u n sl ks sp) (hb : b ∈ ks ++ sp) : rwOk E a Nb Sb c (uR u b x) n sl ks sp := by
  obtain ⟨h1, h2, h3, h4, h5, h6, h7⟩ := h
  refine ⟨h1, h2, h3, ⟨h4.1, ?_, h4.2.2⟩, h5, h6, h7⟩
  rcases h4.2.1 with z | ⟨z1, z2, z3, z4, z5, z6⟩
  · exact Or.inl z
  · refine Or.inr ⟨z1, z2, z3, z4, z5, fun i y hy => ?_⟩
    rw [(uRo (u := u) (x := x) (row_out (h6 b hb).1 z1.1 (Or.inl (by decide)))).2]
    exact z6 i y hy
/-- what a row holds -/
abbrev rC : Type := Nat × List (Nat × Nat) × (Nat → Option Nat)
def rc (u : uS) (tm : Nat → Nat) (b : Nat) (A : rC) : Prop := hX (xOf u b) A.1 (A.2.1.map (tmQ tm)) A.2.2
def rcs (u : uS) (tm : Nat → Nat) : List Nat → List rC → Prop
  | [], [] => True
  | b :: ks, A :: L => rc u tm b A ∧ rcs u tm ks L
  | [], _ :: _ => False
  | _ :: _, [] => False
theorem rcs_len : ∀ {ks : List Nat} {L : List rC}, rcs u tm ks L → ks.length = L.length
  | [], [], _ => rfl
  | _ :: ks, _ :: L, h => congrArg (· + 1) (rcs_len (ks := ks) (L := L) h.2)
  | [], _ :: _, h => h.elim
  | _ :: _, [], h => h.elim
theorem rcs_fr : ∀ {ks : List Nat} {L : List rC}, rcs u tm ks L → (∀ y ∈ ks, xOf u' y = xOf u y) → rcs u' tm ks L
  | [], [], _, _ => trivial
  | b :: ks, A :: L, h, hx => ⟨by
      unfold rc
      rw [hx b List.mem_cons_self]
      exact h.1, rcs_fr h.2 (fun y hy => hx y (List.mem_cons_of_mem _ hy))⟩
  | [], _ :: _, h, _ => h.elim
  | _ :: _, [], h, _ => h.elim
theorem rcs_app : ∀ {ks ks' : List Nat} {L L' : List rC}, rcs u tm ks L → rcs u tm ks' L' → rcs u tm (ks ++ ks') (L ++ L')
  | [], _, [], _, _, h => h
  | _ :: _, _, _ :: _, _, h, h' => ⟨h.1, rcs_app h.2 h'⟩
  | [], _, _ :: _, _, h, _ => h.elim
  | _ :: _, _, [], _, h, _ => h.elim
/-- the terms lie in the heap as the nodes say -/
def tmW (P : Nat → Nat → Int32) (u : uS) (a : Nat) (tm : Nat → Nat) (ob : Nat → Int32) (T : Nat → Prop) : Prop := ∀ k, T k → zIs u a (tm k) 7 ∧ zIs u a (tm k + 1) 8 ∧ u.2.2.1 (tm k) 0 = P 4 k ∧ u.2.2.1 (tm k) 1 = kdC (P 3 (bse P 512 k)) ∧ (aK P (bse P 512 k) → u.2.2.1 (tm k) 2 = P 5 (bse P 512 k)) ∧ u.2.2.1 (tm k) 5 = ob k ∧
  (P 3 (bse P 512 k) = 3 → u.2.1 (tm k + 1) = 2 ∧ u.2.2.2 (tm k + 1) 0 = some (tm (tn (P 6 (4 * bse P 512 k)))) ∧ u.2.2.2 (tm k + 1) 1 = some (tm (tn (P 6 (4 * bse P 512 k + 1))))) ∧
  (P 3 (bse P 512 k) = 2 → u.2.1 (tm k + 1) = aAr P (bse P 512 k) ∧ ∀ i, i < aAr P (bse P 512 k) → u.2.2.2 (tm k + 1) i = some (tm (tn (P 6 (4 * bse P 512 k + i))))) ∧ (P 3 (bse P 512 k) = 1 → u.2.1 (tm k + 1) = 0)
theorem tmW_to (h : tmW P u a tm ob T) (hf : ∀ q, u.1 q = 7 ∨ u.1 q = 8 → u'.1 q = u.1 q ∧ u'.2.1 q = u.2.1 q ∧ u'.2.2.1 q = u.2.2.1 q ∧ u'.2.2.2 q = u.2.2.2 q) : tmW P u' a tm ob T := by
  intro k hk
  obtain ⟨h1, h2, h3⟩ := h k hk
  obtain ⟨a1, a2, a3, a4⟩ := hf _ (Or.inl h1.1)
  obtain ⟨b1, b2, b3, b4⟩ := hf _ (Or.inr h2.1)
  refine ⟨⟨a1.trans h1.1, h1.2⟩, ⟨b1.trans h2.1, h2.2⟩, ?_⟩
  rw [a3, b2, b4]
  exact h3
theorem tmW_fr (h : tmW P u a tm ob T) (ho : uOk u a n) (hf : rFr u u' n) : tmW P u' a tm ob T :=
  tmW_to h (fun q hq => by
    have hn := (ho q (by rcases hq with z | z <;> rw [z] <;> decide)).2
    exact ⟨hf.1 q hn, hf.2 q hn (by rcases hq with z | z <;> rw [z] <;> decide) (by rcases hq with z | z <;> rw [z] <;> decide)⟩)
theorem tI_z (tp : tmP P N tm ob T) (tw : tmW P u a tm ob T) {ws : List (Nat × Nat)} {bd : Nat → Option Nat} (h : ∀ q ∈ ws, q.2 < N ∧ okI P ob T bd q) : ∀ y ∈ ws.map (tmQ tm), zIs u a y.2 7 := by
  intro y hy
  obtain ⟨q, hq, rfl⟩ := List.mem_map.mp hy
  rcases (h q hq).2 with z | ⟨-, ⟨k, z, e⟩, -⟩
  · exact (tw _ z).1
  · have := (tp k z).2.2.2.1
    rw [e] at this
    show zIs u a (tm q.2) 7
    rw [this]
    exact (tw k z).1
theorem tW_kd (tw : tmW P u a tm ob T) : ∀ k, T k → (fun t => u.2.2.1 t 1) (tm k) = kdC (P 3 (bse P 512 k)) ∧ (fun t => u.2.2.1 t 5) (tm k) = ob k := fun k hk => ⟨(tw k hk).2.2.2.1, (tw k hk).2.2.2.2.2.1⟩
theorem hX_bd {o : Nat} {ws : List (Nat × Nat)} {bd bd' : Nat → Option Nat} (h : hX x o ws bd) (hb : ∀ w, w < 8 → bd w = bd' w) : hX x o ws bd' := ⟨h.1, h.2.1, h.2.2.1, fun k hk => by rw [h.2.2.2 k hk, hb k hk]⟩
/-- the rows that settling these gives -/
def flt (P : Nat → Nat → Int32) (U : List rC) : List rC := U.flatMap (fun A => aC A.1 (aL P A.2.1 A.2.2))
theorem flt_len (wf : wfN P N) : ∀ (U : List rC), (∀ A ∈ U, tI P N ob T A.2.1 A.2.2) → U.length ≤ (flt P U).length
  | [], _ => Nat.zero_le _
  | A :: U, h => by
    have ih := flt_len wf U (fun B hB => h B (List.mem_cons_of_mem _ hB))
    have hp := List.length_pos_iff.mpr (aL_ne wf (bd := A.2.2) (fun q hq => ((h A List.mem_cons_self).1 q hq).1))
    have e : (flt P (A :: U)).length = (aL P A.2.1 A.2.2).length + (flt P U).length := by simp [flt, aC]
    rw [e, List.length_cons]
    omega
/-- a tidied row: what its settling is -/
def tdd (P : Nat → Nat → Int32) (N : Nat) (ob : Nat → Int32) (T : Nat → Prop) (L : List (List (Nat × Nat) × (Nat → Option Nat))) (d2 p2 : List (Nat × Nat)) (bd2 : Nat → Option Nat) : Prop := (∀ q ∈ d2, aK P q.2) ∧
      ((p2 = [] ∧ tI P N ob T d2 bd2 ∧ L = [(d2, bd2)]) ∨
       ∃ p b r, p2 = (p, b) :: r ∧ P 3 b = 3 ∧ (∃ k, T k ∧ bse P 512 k = b) ∧ tI P N ob T (d2 ++ (p, tn (P 6 (4 * b))) :: r) bd2 ∧ tI P N ob T (d2 ++ (p, tn (P 6 (4 * b + 1))) :: r) bd2 ∧
         L = aL P (d2 ++ (p, tn (P 6 (4 * b))) :: r) bd2 ++ aL P (d2 ++ (p, tn (P 6 (4 * b + 1))) :: r) bd2)
/-- tidying a row of the list -/
theorem m_T_tidy (wf : wfN P N) (wb : wfB P N) (wk : wfK P N) (tp : tmP P N tm ob T) (tw : tmW P u a tm ob T) (hw : rowW u a b) {ow : Nat} {ws : List (Nat × Nat)} {bd : Nat → Option Nat} (hI : tI P N ob T ws bd) (hx : rc u tm b (ow, ws, bd)) : GM E Y_Row_tidy (d + 1) [.ref b] (yW E G a c u n sl) (fun o G' => ∃ d2 p2 bd2 x', o = .inl (some (.int (if p2 = [] then -1 else nI d2.length))) ∧ G' = yW E G a c (uR u b x') n sl ∧ hX x' ow ((d2 ++ p2).map (tmQ tm)) bd2 ∧ tdd P N ob T (aL P ws bd) d2 p2 bd2) := by
  have hlen : (ws.map (tmQ tm)).length ≤ 24 := by
    rw [List.length_map]
    exact Nat.le_trans (tI_len wf (fun q hq => (hI.1 q hq).1)) hI.2.2.2
  have K := m_R_tidy (E := E) (d := d) (G := G) (c := c) (n := n) (sl := sl) (x := xOf u b) hw hx hlen (tI_z tp tw hI.1)
  rw [uR_self] at K
  obtain ⟨d2, p2, bd2, bd3, e, eb, hk, hc⟩ := td_row (kd := fun t => u.2.2.1 t 1) (on := fun t => u.2.2.1 t 5) wf wb wk tp (tW_kd tw) hI
  refine K.mono (fun o G' hq => ?_)
  rw [e] at hq
  obtain ⟨ho, x', hG, hX'⟩ := hq
  refine ⟨d2, p2, bd2, x', ?_, hG, ?_, hk, hc⟩
  · rw [ho]
    cases p2 with
    | nil => simp
    | cons y z => simp
  · rw [List.map_append]
    exact hX_bd hX' eb

theorem m_T_become {b2 : Nat} (hw : rowW u a b) (hw2 : rowW u a b2) (hne : b ≠ b2) {ow : Nat} {ws : List (Nat × Nat)} {bd : Nat → Option Nat} (hy : hX (xOf u b2) ow ws bd) (hl : ws.length ≤ 24) (ht : ∀ q ∈ ws, zIs u a q.2 7) : GM E Y_Row_become d [.ref b, .ref b2] (yW E G a c u n sl) (rPost none (fun G' => ∃ x', G' = yW E G a c (uR u b x') n sl ∧ hX x' ow ws bd)) := by
  have K := m_R_become (E := E) (d := d) (G := G) (c := c) (n := n) (sl := sl) (x := xOf u b) hw hw2 (row_apart hw hw2 hne) hy hl ht
  rw [uR_self] at K
  exact K
theorem m_T_choose (hw : rowW u a b) {l r : List (Nat × Nat)} {p t t' w ow : Nat} {bd : Nat → Option Nat} (hx : hX (xOf u b) ow (l ++ (p, t) :: r) bd) (hl : (l ++ (p, t) :: r).length ≤ 24) (ht : zIs u a t 7) (hz : zIs u a (t + 1) 8) (hw8 : w < 8) (hwl : w < u.2.1 (t + 1)) (hT : u.2.2.2 (t + 1) w = some t') (ht' : zIs u a t' 7) : GM E Y_Row_choose d [.ref b, .int (nI l.length), .int (nI w)] (yW E G a c u n sl) (rPost none (fun G' => ∃ x', G' = yW E G a c (uR u b x') n sl ∧ hX x' ow (l ++ (p, t') :: r) bd)) := by
  have K := m_R_choose (E := E) (d := d) (G := G) (c := c) (n := n) (sl := sl) (x := xOf u b) (w := w) hw hx hl ht hz hw8 hwl (by rw [uR_self]; exact hT) ht'
  rw [uR_self] at K
  exact K
theorem nd_mid {l dn m sp : List Nat} (h : (l ++ (dn ++ b :: m) ++ sp).Nodup) : (∀ y ∈ l, y ≠ b) ∧ (∀ y ∈ dn, y ≠ b) ∧ ∀ y ∈ m, y ≠ b := by
  have h1 := (List.nodup_append.mp h).1
  obtain ⟨-, h2, h3⟩ := List.nodup_append.mp h1
  obtain ⟨-, h4, h5⟩ := List.nodup_append.mp h2
  exact ⟨fun y hy => h3 y hy b (by simp), fun y hy => h5 y hy b (by simp), fun y hy e => (List.nodup_cons.mp h4).1 (e ▸ hy)⟩
/-- the tree's rows ks behind those of before; what has changed since -/
def pB (E : gE) (a Nb Sb : Nat) (c0 : cS) (u0 : uS) (n0 : Nat) (l0 : List Nat) (fr : Nat) (c : cS) (u : uS) (n sl : Nat) (sp ks : List Nat) : Prop := rwOk E a Nb Sb c u n sl (l0 ++ ks) sp ∧ rFc c0 c ∧ rFr u0 u n0 ∧ n0 ≤ n ∧ (∀ y ∈ l0, xOf u y = xOf u0 y) ∧ l0.length + ks.length ≤ fr + 80
theorem pB_row {l0 ks sp : List Nat} {fr : Nat} (h : pB E a Nb Sb c0 u0 n0 l0 fr c u n sl sp ks) {y : Nat} (hy : y ∈ ks) : rowW u a y := (h.1.2.2.2.2.2.1 y (List.mem_append_left _ (List.mem_append_right _ hy))).1
theorem pB_x {l0 ks sp : List Nat} {fr : Nat} (h : pB E a Nb Sb c0 u0 n0 l0 fr c u n sl sp ks) {y : Nat} (hb : b ∈ ks) (hy : y ∈ l0 ++ ks) (hne : y ≠ b) : xOf (uR u b x) y = xOf u y :=
  xOf_ne (row_apart (pB_row h hb) (h.1.2.2.2.2.2.1 y (List.mem_append_left _ hy)).1 (fun e => hne e.symm))
theorem pB_uR {l0 dn m sp : List Nat} {fr : Nat} (h : pB E a Nb Sb c0 u0 n0 l0 fr c u n sl sp (dn ++ b :: m)) : pB E a Nb Sb c0 u0 n0 l0 fr c (uR u b x) n sl sp (dn ++ b :: m) := by
  have hb : b ∈ dn ++ b :: m := by simp
  obtain ⟨q1, -, -⟩ := nd_mid h.1.2.2.2.2.1
  refine ⟨rw_uR h.1 (List.mem_append_left _ (List.mem_append_right _ hb)), h.2.1, rFr_tr h.2.2.1 (rFr_uR (n := n) (pB_row h hb)) h.2.2.2.1, h.2.2.2.1, fun y hy => ?_, h.2.2.2.2.2⟩
  rw [pB_x h hb (List.mem_append_left _ hy) (q1 y hy)]
  exact h.2.2.2.2.1 y hy
theorem pB_rcs {l0 dn m sp : List Nat} {fr : Nat} (h : pB E a Nb Sb c0 u0 n0 l0 fr c u n sl sp (dn ++ b :: m)) {Ld U : List rC} (h1 : rcs u tm dn Ld) (h2 : rcs u tm m U) : rcs (uR u b x) tm dn Ld ∧ rcs (uR u b x) tm m U := by
  obtain ⟨-, q2, q3⟩ := nd_mid h.1.2.2.2.2.1
  exact ⟨rcs_fr h1 (fun y hy => pB_x h (by simp) (by simp [hy]) (q2 y hy)), rcs_fr h2 (fun y hy => pB_x h (by simp) (by simp [hy]) (q3 y hy))⟩
/-- what is made of a tree's rows: all of them, or too many -/
def prQ (E : gE) (G : gS) (a Nb Sb : Nat) (tm : Nat → Nat) (c0 : cS) (u0 : uS) (n0 : Nat) (l0 : List Nat) (fr : Nat) (L : List rC) : gO → gS → Prop := fun o G' =>
  (o = .inl (some (.int 1)) ∧ ∃ c u n sl sp bs, G' = yW E G a c u n sl ∧ pB E a Nb Sb c0 u0 n0 l0 fr c u n sl sp bs ∧ rcs u tm bs L) ∨
  (o = .inl (some (.int 0)) ∧ fr + 80 < l0.length + L.length ∧ ∃ c u n sl sp ks, G' = yW E G a c u n sl ∧ pB E a Nb Sb c0 u0 n0 l0 fr c u n sl sp ks)
set_option maxHeartbeats 1000000 in
set_option maxRecDepth 100000 in
theorem m_S_part41 (wf : wfN P N) (wb : wfB P N) (wk : wfK P N) (tp : tmP P N tm ob T) (tw0 : tmW P u0 a tm ob T) (ho0 : uOk u0 a n0) {l0 dn : List Nat} {fr ow : Nat} {L Ld : List rC} (hfr : fr ≤ l0.length) (hf8 : fr ≤ 800) {at_ : Int32}
    (kk : ∀ c u n sl sp m U d2 bd2, pB E a Nb Sb c0 u0 n0 l0 fr c u n sl sp ((dn ++ [b]) ++ m) → rcs u tm (dn ++ [b]) (Ld ++ [(ow, d2, bd2)]) → rcs u tm m U → (∀ A ∈ U, tI P N ob T A.2.1 A.2.2) → (Ld ++ [(ow, d2, bd2)]) ++ flt P U = L → GT E Y_Rows_part (d + 8) G0 107 [(0, .ref (a + 13)), (1, .int (nI fr)), (2, .int at_), (3, .int (nI (l0.length + dn.length)))] [] (yW E G a c u n sl) Q)
    (kz : ∀ c u n sl sp ks, pB E a Nb Sb c0 u0 n0 l0 fr c u n sl sp ks → fr + 80 < l0.length + L.length → Q (.inl (some (.int 0))) (yW E G a c u n sl)) :
    ∀ (K : Nat) (L1 : List (List (Nat × Nat) × (Nat → Option Nat))) (d2 p2 : List (Nat × Nat)) (bd2 : Nat → Option Nat) (m : List Nat) (U : List rC) (j : Nat) (c : cS) (u : uS) (n sl : Nat) (sp : List Nat), L1.length ≤ K → tdd P N ob T L1 d2 p2 bd2 → hX (xOf u b) ow ((d2 ++ p2).map (tmQ tm)) bd2 → pB E a Nb Sb c0 u0 n0 l0 fr c u n sl sp (dn ++ b :: m) → rcs u tm dn Ld → rcs u tm m U → (∀ A ∈ U, tI P N ob T A.2.1 A.2.2) → j ≤ m.length → Ld ++ (aC ow L1 ++ flt P U) = L →
    GT E Y_Rows_part (d + 8) G0 41 [(0, .ref (a + 13)), (1, .int (nI fr)), (2, .int at_), (3, .int (nI (l0.length + dn.length))), (4, .ref b), (5, .int (if p2 = [] then -1 else nI d2.length)), (6, .int (nI j))] [] (yW E G a c u n sl) Q := by
  intro K
  induction K with
  | zero =>
    intro L1 d2 p2 bd2 m U j c u n sl sp hK ht
    exfalso
    rcases ht.2 with ⟨-, -, e⟩ | ⟨p, bn, r, -, -, -, h1, -, e⟩
    · rw [e] at hK
      simp at hK
    · rw [e, List.length_append] at hK
      have := List.length_pos_iff.mpr (aL_ne wf (bd := bd2) (fun q hq => (h1.1 q hq).1))
      omega
  | succ K ih =>
    intro L1 d2 p2 bd2 m U j c u n sl sp hK ht hx hB hd hm hU hj hL
    have hcnt := hB.2.2.2.2.2
    have hcnt2 : l0.length + (dn.length + (m.length + 1)) ≤ fr + 80 := by
      rw [List.length_append, List.length_cons] at hcnt
      exact hcnt
    rcases ht.2 with ⟨rfl, hI, rfl⟩ | ⟨pp, bn, r, rfl, h3, ⟨k, hT, hbk⟩, hI1, hI2, rfl⟩
    · rw [if_pos rfl]
      rw [List.append_nil] at hx
      refine g_iload d_Rows_part_41 rfl ?_
      refine g_bipush (v := 80) d_Rows_part_43 (by decide) ?_
      refine g_icmp_ge (tgt := 107) d_Rows_part_45 (by decide) (fun c_45 => ?_) (fun c_45 => ?_)
      · exact absurd c_45 (ige (m := 80) (by omega) (by omega) (by omega))
      refine g_iload d_Rows_part_48 rfl ?_
      refine g_iconst (v := (-1)) d_Rows_part_50 (by decide) ?_
      refine g_icmp_eq (tgt := 107) d_Rows_part_51 (by decide) (fun c_51 => ?_) (fun c_51 => ?_)
      rotate_left
      · exact absurd c_51 (fun q => q rfl)
      refine g_weak (lv' := [(0, .ref (a + 13)), (1, .int (nI fr)), (2, .int at_), (3, .int (nI (l0.length + dn.length)))]) (fun q hq => List.mem_append_left _ hq) (by simp) ?_
      refine kk c u n sl sp m U d2 bd2 (by rw [List.append_assoc]; exact hB) (rcs_app hd ⟨hx, trivial⟩) hm hU ?_
      rw [← hL, List.append_assoc]
      rfl
    · rw [if_neg (by simp)]
      have hlenU := rcs_len hm
      have hflt := flt_len wf U hU
      have n1 := List.length_pos_iff.mpr (aL_ne wf (bd := bd2) (fun q hq => (hI1.1 q hq).1))
      have n2 := List.length_pos_iff.mpr (aL_ne wf (bd := bd2) (fun q hq => (hI2.1 q hq).1))
      have h13 := hB.1.2.2.2.2.2.2.1
      have hlen24 : ((d2 ++ (pp, bn) :: r).map (tmQ tm)).length ≤ 24 := by
        have e1 : ((d2 ++ (pp, bn) :: r).map (tmQ tm)).length = (d2 ++ (pp, tn (P 6 (4 * bn))) :: r).length := by simp
        rw [e1]
        exact Nat.le_trans (tI_len wf (fun q hq => (hI1.1 q hq).1)) hI1.2.2.2
      have hd2 : d2.length < 2 ^ 31 := by
        have := tI_len wf (fun q hq => (hI1.1 q hq).1)
        have := hI1.2.2.2
        rw [aZ_app] at this
        have := tI_len wf (ws := d2) (fun q hq => (hI1.1 q (List.mem_append_left _ hq)).1)
        omega
      by_cases hfull : l0.length + (dn ++ b :: m).length = fr + 80
      · refine g_iload d_Rows_part_41 rfl ?_
        refine g_bipush (v := 80) d_Rows_part_43 (by decide) ?_
        refine g_icmp_ge (tgt := 107) d_Rows_part_45 (by decide) (fun c_45 => ?_) (fun c_45 => ?_)
        · exact absurd c_45 (ige (m := 80) (by omega) (by omega) (by omega))
        refine g_iload d_Rows_part_48 rfl ?_
        refine g_iconst (v := (-1)) d_Rows_part_50 (by decide) ?_
        refine g_icmp_eq (tgt := 107) d_Rows_part_51 (by decide) (fun c_51 => ?_) (fun c_51 => ?_)
        · exact absurd c_51 (fun q => nI_ne1 hd2 q)
        refine g_aload_n d_Rows_part_54 rfl ?_
        refine g_iload_n d_Rows_part_55 rfl ?_
        refine g_iload_n d_Rows_part_56 rfl ?_
        refine g_iconst (v := 1) d_Rows_part_57 (by decide) ?_
        refine g_iadd d_Rows_part_58 ?_
        refine g_top (nI (l0.length + dn.length + 1)) (nI_1 _) ?_
        refine c_Vr (as := [.int (nI fr), .int (nI (l0.length + dn.length + 1))]) kv_Rows_insert ml_Rows_40 rfl (x_at (k := 13) (by decide) rfl) (m_S_insNull (K := (l0 ++ (dn ++ b :: m)).length) (at_ := l0.length + dn.length + 1) h13 (by rw [List.length_append]; omega) (by rw [List.length_append]; omega)) rfl (Nat.le_of_ble_eq_true rfl) rfl d_Rows_part_59 rfl ?_
        refine g_astoreN d_Rows_part_62 (by decide) rfl ?_
        refine g_aloadN d_Rows_part_64 rfl ?_
        refine g_ifnonnullN d_Rows_part_66 ?_
        refine g_iconst (v := 0) d_Rows_part_69 (by decide) ?_
        refine g_zret rfl rfl d_Rows_part_70 ?_
        refine kz c u n sl sp _ hB ?_
        rw [← hL]
        simp only [List.length_append, aC, List.length_map]
        have := rcs_len hd
        simp only [List.length_append, List.length_cons] at hfull
        omega
      · refine g_iload d_Rows_part_41 rfl ?_
        refine g_bipush (v := 80) d_Rows_part_43 (by decide) ?_
        refine g_icmp_ge (tgt := 107) d_Rows_part_45 (by decide) (fun c_45 => ?_) (fun c_45 => ?_)
        · exact absurd c_45 (ige (m := 80) (by omega) (by omega) (by omega))
        refine g_iload d_Rows_part_48 rfl ?_
        refine g_iconst (v := (-1)) d_Rows_part_50 (by decide) ?_
        refine g_icmp_eq (tgt := 107) d_Rows_part_51 (by decide) (fun c_51 => ?_) (fun c_51 => ?_)
        · exact absurd c_51 (fun q => nI_ne1 hd2 q)
        refine g_aload_n d_Rows_part_54 rfl ?_
        refine g_iload_n d_Rows_part_55 rfl ?_
        refine g_iload_n d_Rows_part_56 rfl ?_
        refine g_iconst (v := 1) d_Rows_part_57 (by decide) ?_
        refine g_iadd d_Rows_part_58 ?_
        refine g_top (nI (l0 ++ (dn ++ [b])).length) (by rw [show (l0 ++ (dn ++ [b])).length = l0.length + dn.length + 1 by simp; omega]; exact nI_1 _) ?_
        have KI := m_S_insert (E := E) (d := d) (G := G) (l := l0 ++ (dn ++ [b])) (m := m) (fr := fr) (by rw [show (l0 ++ (dn ++ [b])) ++ m = l0 ++ (dn ++ b :: m) by simp]; exact hB.1) (by simp only [List.length_append, List.length_cons, List.length_nil]; omega) (by simp only [List.length_append, List.length_cons, List.length_nil]; omega) (by simp only [List.length_append, List.length_cons, List.length_nil] at hfull ⊢; omega)
        refine c_V (as := [.int (nI fr), .int (nI (l0 ++ (dn ++ [b])).length)]) kv_Rows_insert ml_Rows_40 rfl (x_at (k := 13) (by decide) rfl) (KI) rfl (Nat.le_of_ble_eq_true rfl) rfl d_Rows_part_59 (fun v_59 G_59 h_59 => ?_) (fun D_59 G_59 h_59 => by obtain ⟨_, _, _, _, _, _, h, _⟩ := h_59; cases h)
        obtain ⟨b2, c1, u1, n1', sl1, sp1, ho1, rfl, rw1, fc1, fr1, nn1, kx1⟩ := h_59
        cases ho1
        have e1 : (l0 ++ (dn ++ [b])) ++ b2 :: m = l0 ++ (dn ++ b :: b2 :: m) := by simp
        have e2 : (l0 ++ (dn ++ [b])) ++ m = l0 ++ (dn ++ b :: m) := by simp
        rw [e1] at rw1
        rw [e2] at kx1
        have B1 : pB E a Nb Sb c0 u0 n0 l0 fr c1 u1 n1' sl1 sp1 (dn ++ b :: b2 :: m) := ⟨rw1, rFc_tr hB.2.1 fc1, rFr_tr hB.2.2.1 fr1 hB.2.2.2.1, Nat.le_trans hB.2.2.2.1 nn1, fun y hy => (kx1 y (List.mem_append_left _ hy)).trans (hB.2.2.2.2.1 y hy), by simp only [List.length_append, List.length_cons] at hfull ⊢; omega⟩
        have hd1 : rcs u1 tm dn Ld := rcs_fr hd (fun y hy => kx1 y (by simp [hy]))
        have hm1 : rcs u1 tm m U := rcs_fr hm (fun y hy => kx1 y (by simp [hy]))
        have hx1 : hX (xOf u1 b) ow ((d2 ++ (pp, bn) :: r).map (tmQ tm)) bd2 := by rw [kx1 b (by simp)]; exact hx
        have B1' : pB E a Nb Sb c0 u0 n0 l0 fr c1 u1 n1' sl1 sp1 ((dn ++ [b]) ++ b2 :: m) := by rw [List.append_assoc]; exact B1
        have hbb : b ≠ b2 := (nd_mid B1'.1.2.2.2.2.1).2.1 b (by simp)
        have tw1 : tmW P u1 a tm ob T := tmW_fr tw0 ho0 B1.2.2.1
        have w1 : rowW u1 a b := pB_row B1 (by simp)
        have w2 : rowW u1 a b2 := pB_row B1 (by simp)
        obtain ⟨y1, y2, -, -, -, -, y3, -⟩ := tw1 k hT
        obtain ⟨-, -, -, t4, t5, -⟩ := tp k hT
        rw [hbk] at t4 t5 y3
        obtain ⟨y31, y32, y33⟩ := y3 h3
        obtain ⟨T1, T2⟩ := t5 h3
        have hz24 : ∀ q ∈ (d2 ++ (pp, bn) :: r).map (tmQ tm), zIs u1 a q.2 7 := fun q hq => by
          rw [List.map_append, List.map_cons] at hq
          rcases List.mem_append.mp hq with hq | hq
          · exact tI_z tp tw1 (fun y hy => hI1.1 y (List.mem_append_left _ hy)) q hq
          · rcases List.mem_cons.mp hq with rfl | hq
            · show zIs u1 a (tm bn) 7
              rw [t4]
              exact y1
            · exact tI_z tp tw1 (fun y hy => hI1.1 y (List.mem_append_right _ (List.mem_cons_of_mem _ hy))) q hq
        refine g_astore d_Rows_part_62 (by decide) rfl ?_
        refine g_aload d_Rows_part_64 rfl ?_
        refine g_ifnonnull (tgt := 71) d_Rows_part_66 (by decide) ?_
        refine g_aload d_Rows_part_71 rfl ?_
        refine g_aload d_Rows_part_73 rfl ?_
        refine c_Vx (as := [.ref (b)]) kv_Row_become ml_Rows_79 rfl (z_at w2.1 (by decide)) (m_T_become w2 w1 (fun e => hbb e.symm) hx1 hlen24 hz24) rfl (Nat.le_of_ble_eq_true rfl) rfl d_Rows_part_75 rfl (fun G_75 h_75 => ?_)
        obtain ⟨x2, rfl, hx2⟩ := h_75
        have B2 := pB_uR (x := x2) B1'
        obtain ⟨hd2', hm2⟩ := pB_rcs (x := x2) B1' (rcs_app hd1 (show rcs u1 tm [b] [(ow, d2 ++ (pp, bn) :: r, bd2)] from ⟨hx1, trivial⟩)) hm1
        have hxb2 : hX (xOf (uR u1 b2 x2) b) ow ((d2 ++ (pp, bn) :: r).map (tmQ tm)) bd2 := by rw [pB_x B1' (by simp) (by simp) hbb]; exact hx1
        have hd2 : rcs (uR u1 b2 x2) tm dn Ld := rcs_fr hd1 (fun y hy => pB_x B1' (by simp) (by simp [hy]) ((nd_mid B1'.1.2.2.2.2.1).2.1 y (by simp [hy])))
        have B2' : pB E a Nb Sb c0 u0 n0 l0 fr c1 (uR u1 b2 x2) n1' sl1 sp1 (dn ++ b :: b2 :: m) := by rw [List.append_assoc] at B2; exact B2
        have o1 : tm k + 1 < b2 ∨ b2 + 4 ≤ tm k + 1 := row_out w2 y2.1 (Or.inl (by decide))
        have o2 : tm k + 1 < b ∨ b + 4 ≤ tm k + 1 := row_out w1 y2.1 (Or.inl (by decide))
        have hx2b : hX (xOf (uR u1 b2 x2) b) ow (d2.map (tmQ tm) ++ (pp, tm k) :: r.map (tmQ tm)) bd2 := by
          rw [List.map_append, List.map_cons] at hxb2
          rw [← t4]
          exact hxb2
        have hx22 : hX x2 ow (d2.map (tmQ tm) ++ (pp, tm k) :: r.map (tmQ tm)) bd2 := by
          rw [List.map_append, List.map_cons] at hx2
          rw [← t4]
          exact hx2
        have hl24 : (d2.map (tmQ tm) ++ (pp, tm k) :: r.map (tmQ tm)).length ≤ 24 := by simpa using hlen24
        have eml : (d2.map (tmQ tm)).length = d2.length := List.length_map ..
        have w1b : rowW (uR u1 b2 x2) a b := w1
        refine g_aload d_Rows_part_78 rfl ?_
        refine g_iload d_Rows_part_80 rfl ?_
        refine g_iconst (v := 0) d_Rows_part_82 (by decide) ?_
        have K83 := m_T_choose (E := E) (d := d + 7) (G := G) (c := c1) (n := n1') (sl := sl1) (u := uR u1 b2 x2) (b := b) (w := 0) (t' := tm (tn (P 6 (4 * bn)))) (pB_row B2' (by simp)) hx2b hl24 y1 y2 (by decide) (show 0 < u1.2.1 (tm k + 1) by rw [y31]; decide) (by rw [(uRo (u := u1) (b := b2) (x := x2) o1).2]; exact y32) (tw1 _ T1).1
        rw [eml] at K83
        refine c_Vx (as := [.int (nI d2.length), .int (0)]) kv_Row_choose ml_Rows_93 rfl (z_at w1b.1 (by decide)) (K83) rfl (Nat.le_of_ble_eq_true rfl) rfl d_Rows_part_83 rfl (fun G_83 h_83 => ?_)
        obtain ⟨x3, rfl, hx3⟩ := h_83
        have B3 := pB_uR (x := x3) B2'
        obtain ⟨hd3, hm3'⟩ := pB_rcs (x := x3) B2' hd2 (show rcs (uR u1 b2 x2) tm (b2 :: m) ((ow, d2 ++ (pp, bn) :: r, bd2) :: U) from ⟨by unfold rc; rw [xOf_at]; exact hx2, hm2⟩)
        have hx32 : hX (xOf (uR (uR u1 b2 x2) b x3) b2) ow (d2.map (tmQ tm) ++ (pp, tm k) :: r.map (tmQ tm)) bd2 := by
          rw [pB_x B2' (by simp) (by simp) (fun e => hbb e.symm), xOf_at]
          exact hx22
        have B3' : pB E a Nb Sb c0 u0 n0 l0 fr c1 (uR (uR u1 b2 x2) b x3) n1' sl1 sp1 ((dn ++ [b]) ++ b2 :: m) := by rw [List.append_assoc]; exact B3
        have hm3 := hm3'.2
        have w2c : rowW (uR (uR u1 b2 x2) b x3) a b2 := w2
        refine g_aload d_Rows_part_86 rfl ?_
        refine g_iload d_Rows_part_88 rfl ?_
        refine g_iconst (v := 1) d_Rows_part_90 (by decide) ?_
        have K91 := m_T_choose (E := E) (d := d + 7) (G := G) (c := c1) (n := n1') (sl := sl1) (u := uR (uR u1 b2 x2) b x3) (b := b2) (w := 1) (t' := tm (tn (P 6 (4 * bn + 1)))) (pB_row B3 (by simp)) hx32 hl24 y1 y2 (by decide) (show 1 < u1.2.1 (tm k + 1) by rw [y31]; decide) (by rw [(uRo (u := uR u1 b2 x2) (b := b) (x := x3) o2).2, (uRo (u := u1) (b := b2) (x := x2) o1).2]; exact y33) (tw1 _ T2).1
        rw [eml] at K91
        refine c_Vx (as := [.int (nI d2.length), .int (1)]) kv_Row_choose ml_Rows_93 rfl (z_at w2c.1 (by decide)) (K91) rfl (Nat.le_of_ble_eq_true rfl) rfl d_Rows_part_91 rfl (fun G_91 h_91 => ?_)
        obtain ⟨x4, rfl, hx4⟩ := h_91
        have B4 := pB_uR (x := x4) B3'
        have B4' : pB E a Nb Sb c0 u0 n0 l0 fr c1 (uR (uR (uR u1 b2 x2) b x3) b2 x4) n1' sl1 sp1 (dn ++ b :: b2 :: m) := by rw [List.append_assoc] at B4; exact B4
        have hd4 : rcs (uR (uR (uR u1 b2 x2) b x3) b2 x4) tm dn Ld := rcs_fr hd3 (fun y hy => pB_x B3' (by simp) (by simp [hy]) ((nd_mid B3'.1.2.2.2.2.1).2.1 y (by simp [hy])))
        have hm4 : rcs (uR (uR (uR u1 b2 x2) b x3) b2 x4) tm m U := rcs_fr hm3 (fun y hy => pB_x B3' (by simp) (by simp [hy]) ((nd_mid B3'.1.2.2.2.2.1).2.2 y hy))
        have hx4b : rc (uR (uR (uR u1 b2 x2) b x3) b2 x4) tm b (ow, d2 ++ (pp, tn (P 6 (4 * bn))) :: r, bd2) := by
          unfold rc
          rw [pB_x B3' (by simp) (by simp) hbb, xOf_at, List.map_append, List.map_cons]
          exact hx3
        have hx42 : rc (uR (uR (uR u1 b2 x2) b x3) b2 x4) tm b2 (ow, d2 ++ (pp, tn (P 6 (4 * bn + 1))) :: r, bd2) := by
          unfold rc
          rw [xOf_at, List.map_append, List.map_cons]
          exact hx4
        have tw4 : tmW P (uR (uR (uR u1 b2 x2) b x3) b2 x4) a tm ob T := tmW_fr tw0 ho0 B4.2.2.1
        have w4 : rowW (uR (uR (uR u1 b2 x2) b x3) b2 x4) a b := pB_row B4' (by simp)
        refine g_aload d_Rows_part_94 rfl ?_
        refine c_V (as := []) kv_Row_tidy ml_Rows_90 rfl (z_at w4.1 (by decide)) (m_T_tidy wf wb wk tp tw4 w4 hI1 hx4b) rfl (Nat.le_of_ble_eq_true rfl) rfl d_Rows_part_96 (fun v_96 G_96 h_96 => ?_) (fun D_96 G_96 h_96 => by obtain ⟨_, _, _, _, h, _⟩ := h_96; cases h)
        obtain ⟨d2n, p2n, bd2n, x5, ho5, rfl, hx5, ht5⟩ := h_96
        cases ho5
        have B5 := pB_uR (x := x5) B4'
        obtain ⟨hd5, hm5⟩ := pB_rcs (x := x5) B4' hd4 (show rcs _ tm (b2 :: m) ((ow, d2 ++ (pp, tn (P 6 (4 * bn + 1))) :: r, bd2) :: U) from ⟨hx42, hm4⟩)
        refine g_istore d_Rows_part_99 (by decide) rfl ?_
        refine g_iinc (v := nI (j + 1)) d_Rows_part_101 rfl (nI_1 j) (by decide) rfl ?_
        refine g_goto (tgt := 41) d_Rows_part_104 (by decide) ?_
        have z := ih (aL P (d2 ++ (pp, tn (P 6 (4 * bn))) :: r) bd2) d2n p2n bd2n (b2 :: m) ((ow, d2 ++ (pp, tn (P 6 (4 * bn + 1))) :: r, bd2) :: U) (j + 1) c1 _ n1' sl1 sp1 (by rw [List.length_append] at hK; omega) ht5 (by rw [xOf_at]; exact hx5) B5 hd5 hm5 (fun A hA => by
          rcases List.mem_cons.mp hA with rfl | hA
          · exact hI2
          · exact hU A hA) (by simp only [List.length_cons]; omega) (by rw [← hL]; simp [flt, aC])
        exact g_weak (fun q hq => List.mem_append_left _ hq) (by simp) z
set_option maxHeartbeats 400000 in
theorem m_S_part107 {l0 dn : List Nat} {fr : Nat} {at_ : Int32} (kk : GT E Y_Rows_part d G0 2 [(0, .ref (a + 13)), (1, .int (nI fr)), (2, .int at_), (3, .int (nI (l0.length + (dn ++ [b]).length)))] [] (yW E G a c u n sl) Q) : GT E Y_Rows_part d G0 107 [(0, .ref (a + 13)), (1, .int (nI fr)), (2, .int at_), (3, .int (nI (l0.length + dn.length)))] [] (yW E G a c u n sl) Q := by
  refine g_iinc (v := nI (l0.length + (dn ++ [b]).length)) d_Rows_part_107 rfl (by rw [List.length_append]; exact nI_1 _) (by decide) rfl ?_
  refine g_goto (tgt := 2) d_Rows_part_110 (by decide) ?_
  exact kk
set_option maxHeartbeats 400000 in
set_option maxRecDepth 100000 in
theorem m_S_part2 (wf : wfN P N) (wb : wfB P N) (wk : wfK P N) (tp : tmP P N tm ob T) (tw0 : tmW P u0 a tm ob T) (ho0 : uOk u0 a n0) {l0 : List Nat} {fr : Nat} {L : List rC} (hfr : fr ≤ l0.length) (hf8 : fr ≤ 800) {at_ : Int32} : ∀ (M : Nat) (dn m : List Nat) (Ld U : List rC) (c : cS) (u : uS) (n sl : Nat) (sp : List Nat), (flt P U).length ≤ M → pB E a Nb Sb c0 u0 n0 l0 fr c u n sl sp (dn ++ m) → rcs u tm dn Ld → rcs u tm m U → (∀ A ∈ U, tI P N ob T A.2.1 A.2.2) → Ld ++ flt P U = L →
    GT E Y_Rows_part (d + 8) G0 2 [(0, .ref (a + 13)), (1, .int (nI fr)), (2, .int at_), (3, .int (nI (l0.length + dn.length)))] [] (yW E G a c u n sl) (prQ E G a Nb Sb tm c0 u0 n0 l0 fr L) := by
  intro M
  induction M with
  | zero =>
    intro dn m Ld U c u n sl sp hM hB hd hm hU hL
    have h1 := flt_len wf U hU
    have h2 := rcs_len hm
    obtain rfl : m = [] := List.length_eq_zero_iff.mp (by omega)
    obtain rfl : U = [] := List.length_eq_zero_iff.mp (by omega)
    have h13 := hB.1.2.2.2.2.2.2.1
    rw [List.append_nil] at hB h13
    refine g_iload_n d_Rows_part_2 rfl ?_
    refine g_aload_n d_Rows_part_3 rfl ?_
    refine x_get (k := 13) (j := 1) (v := .int (c.1 13)) kc_Rows fl_Rows_18 (by decide) (by decide) rfl rfl d_Rows_part_4 ?_
    rw [h13]
    refine g_icmp_ge (tgt := 113) d_Rows_part_7 (by decide) (fun c_7 => ?_) (fun c_7 => ?_)
    rotate_left
    · exact absurd c_7 (fun q => q (by rw [List.length_append]; exact Int32.le_refl _))
    refine g_iconst (v := 1) d_Rows_part_113 (by decide) ?_
    refine g_zret rfl rfl d_Rows_part_114 ?_
    refine Or.inl ⟨rfl, c, u, n, sl, sp, dn, rfl, hB, ?_⟩
    rw [← hL]
    simpa [flt] using hd
  | succ M ih =>
    intro dn m Ld U c u n sl sp hM hB hd hm hU hL
    have h13 := hB.1.2.2.2.2.2.2.1
    have hcnt := hB.2.2.2.2.2
    cases m with
    | nil =>
      cases U with
      | cons A U => exact hm.elim
      | nil =>
        rw [List.append_nil] at hB h13
        refine g_iload_n d_Rows_part_2 rfl ?_
        refine g_aload_n d_Rows_part_3 rfl ?_
        refine x_get (k := 13) (j := 1) (v := .int (c.1 13)) kc_Rows fl_Rows_18 (by decide) (by decide) rfl rfl d_Rows_part_4 ?_
        rw [h13]
        refine g_icmp_ge (tgt := 113) d_Rows_part_7 (by decide) (fun c_7 => ?_) (fun c_7 => ?_)
        rotate_left
        · exact absurd c_7 (fun q => q (by rw [List.length_append]; exact Int32.le_refl _))
        refine g_iconst (v := 1) d_Rows_part_113 (by decide) ?_
        refine g_zret rfl rfl d_Rows_part_114 ?_
        refine Or.inl ⟨rfl, c, u, n, sl, sp, dn, rfl, hB, ?_⟩
        rw [← hL]
        simpa [flt] using hd
    | cons b m =>
      cases U with
      | nil => exact hm.elim
      | cons A U =>
        obtain ⟨ow, ws, bd⟩ := A
        have hw := pB_row hB (y := b) (by simp)
        have hI := hU _ List.mem_cons_self
        have tw := tmW_fr tw0 ho0 hB.2.2.1
        have hlo := hB.1.2.2.2.1
        have hll : (l0 ++ (dn ++ b :: m)).length = l0.length + dn.length + (m.length + 1) := by simp; omega
        rw [List.length_append, List.length_cons] at hcnt
        have hi : ((l0 ++ (dn ++ b :: m)) ++ sp)[l0.length + dn.length]? = some b := by
          rw [List.getElem?_append_left (by omega), ← List.append_assoc, show l0.length + dn.length = (l0 ++ dn).length by simp]
          exact mid_at
        refine g_iload_n d_Rows_part_2 rfl ?_
        refine g_aload_n d_Rows_part_3 rfl ?_
        refine x_get (k := 13) (j := 1) (v := .int (c.1 13)) kc_Rows fl_Rows_18 (by decide) (by decide) rfl rfl d_Rows_part_4 ?_
        rw [h13, hll]
        refine g_icmp_ge (tgt := 113) d_Rows_part_7 (by decide) (fun c_7 => ?_) (fun c_7 => ?_)
        · exact absurd c_7 (ige (by omega) (by omega) (by omega))
        refine g_iload_n d_Rows_part_10 rfl ?_
        refine g_iload_n d_Rows_part_11 rfl ?_
        refine g_bipush (v := 80) d_Rows_part_12 (by decide) ?_
        refine g_iadd d_Rows_part_14 ?_
        refine g_top (nI (fr + 80)) (i_nI (add_hi (nI_hi (by omega)) (show (80 : Int32).toInt = ((80 : Nat) : Int) by decide) (by omega))) ?_
        refine g_icmp_ge (tgt := 113) d_Rows_part_15 (by decide) (fun c_15 => ?_) (fun c_15 => ?_)
        · exact absurd c_15 (ige (by omega) (by omega) (by omega))
        refine g_aload_n d_Rows_part_18 rfl ?_
        refine x_get (k := 13) (j := 0) (v := .ref (a + 14)) kc_Rows fl_Rows_12 (by decide) (by decide) rfl rfl d_Rows_part_19 ?_
        refine g_iload_n d_Rows_part_22 rfl ?_
        refine c_Vr (as := [.int (nI (l0.length + dn.length))]) kv_ArrayList_get ml_Rows_28 rfl (x_at (k := 14) (by decide) rfl) (m_K_get lk_rows hlo (by omega) hi) rfl (Nat.le_of_ble_eq_true rfl) rfl d_Rows_part_23 rfl ?_
        refine z_cast (kb := 1) cl_Rows_32 rfl hw.1 (by decide) d_Rows_part_26 ?_
        refine g_astore d_Rows_part_29 (by decide) rfl ?_
        refine g_aload d_Rows_part_31 rfl ?_
        refine c_V (as := []) kv_Row_tidy ml_Rows_90 rfl (z_at hw.1 (by decide)) (m_T_tidy wf wb wk tp tw hw hI hm.1) rfl (Nat.le_of_ble_eq_true rfl) rfl d_Rows_part_33 (fun v_33 G_33 h_33 => ?_) (fun D_33 G_33 h_33 => by obtain ⟨_, _, _, _, h, _⟩ := h_33; cases h)
        obtain ⟨d2, p2, bd2, x5, ho5, rfl, hx5, ht5⟩ := h_33
        cases ho5
        have B5 := pB_uR (x := x5) hB
        obtain ⟨hd5, hm5⟩ := pB_rcs (x := x5) hB hd hm.2
        refine g_istore d_Rows_part_36 (by decide) rfl ?_
        refine g_iconst (v := 0) d_Rows_part_38 (by decide) ?_
        refine g_istore d_Rows_part_39 (by decide) rfl ?_
        refine m_S_part41 wf wb wk tp tw0 ho0 (b := b) (ow := ow) (L := L) (Ld := Ld) hfr hf8 (fun c' u' n' sl' sp' m' U' d2' bd2' k1 k2 k3 k4 k5 => m_S_part107 (b := b) (ih (dn ++ [b]) m' _ U' c' u' n' sl' sp' ?_ k1 k2 k3 k4 k5)) (fun c' u' n' sl' sp' ks k1 k2 => Or.inr ⟨rfl, k2, c', u', n', sl', sp', ks, rfl, k1⟩) _ (aL P ws bd) d2 p2 bd2 m U 0 c (uR u b x5) n sl sp (Nat.le_refl _) ht5 (by rw [xOf_at]; exact hx5) B5 hd5 hm5 (fun A hA => hU A (List.mem_cons_of_mem _ hA)) (Nat.zero_le _) ?_
        · have e1 := congrArg List.length hL
          have e2 := congrArg List.length k5
          simp only [List.length_append, List.length_cons, List.length_nil] at e1 e2
          omega
        · rw [← hL]
          simp [flt, aC]
set_option maxHeartbeats 400000 in
set_option maxRecDepth 100000 in
theorem m_S_part (wf : wfN P N) (wb : wfB P N) (wk : wfK P N) (tp : tmP P N tm ob T) (tw : tmW P u a tm ob T) {l sp : List Nat} {b fr ow : Nat} {ws : List (Nat × Nat)} {bd : Nat → Option Nat} (h : rwOk E a Nb Sb c u n sl (l ++ [b]) sp) (hfr : fr ≤ l.length) (hf8 : fr ≤ 800) (h80 : l.length + 1 ≤ fr + 80) (hI : tI P N ob T ws bd) (hx : rc u tm b (ow, ws, bd)) : GM E Y_Rows_part (d + 8) [.ref (a + 13), .int (nI fr), .int (nI l.length)] (yW E G a c u n sl) (prQ E G a Nb Sb tm c u n l fr (aC ow (aL P ws bd))) := by
  refine g_entry (by decide) (by simp [Value.category]) (Nat.le_of_ble_eq_true rfl) ?_
  refine g_iload_n d_Rows_part_0 rfl ?_
  refine g_istore_n d_Rows_part_1 (by decide) rfl ?_
  have K := m_S_part2 (E := E) (d := d) (G := G) (G0 := yW E G a c u n sl) (at_ := nI l.length) (L := aC ow (aL P ws bd)) wf wb wk tp tw h.2.2.1 hfr hf8 _ [] [b] [] [(ow, ws, bd)] c u n sl sp (Nat.le_refl _) ⟨h, rFc_rf, rFr_rf, Nat.le_refl _, fun _ _ => rfl, h80⟩ trivial ⟨hx, trivial⟩ (fun A hA => by rcases List.mem_singleton.mp hA with rfl; exact hI) (by simp [flt])
  exact K
end BY

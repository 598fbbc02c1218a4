/-! The reference: type, clear, unused, name, either -/
theorem d_Model_type_0 : decode Y_Model_type.2.1 0 = .ok (.aload_n 0, 1) := by decide +kernel
theorem d_Model_type_1 : decode Y_Model_type.2.1 1 = .ok (.iload_n 1, 1) := by decide +kernel
theorem d_Model_type_2 : decode Y_Model_type.2.1 2 = .ok (.ifCond .lt 19, 3) := by decide +kernel
theorem d_Model_type_5 : decode Y_Model_type.2.1 5 = .ok (.iload_n 1, 1) := by decide +kernel
theorem d_Model_type_6 : decode Y_Model_type.2.1 6 = .ok (.bipush 15, 2) := by decide +kernel
theorem d_Model_type_8 : decode Y_Model_type.2.1 8 = .ok (.if_icmp .gt 13, 3) := by decide +kernel
theorem d_Model_type_11 : decode Y_Model_type.2.1 11 = .ok (.iload_n 2, 1) := by decide +kernel
theorem d_Model_type_12 : decode Y_Model_type.2.1 12 = .ok (.ifCond .lt 9, 3) := by decide +kernel
theorem d_Model_type_15 : decode Y_Model_type.2.1 15 = .ok (.iload_n 2, 1) := by decide +kernel
theorem d_Model_type_16 : decode Y_Model_type.2.1 16 = .ok (.bipush 8, 2) := by decide +kernel
theorem d_Model_type_18 : decode Y_Model_type.2.1 18 = .ok (.if_icmp .le 7, 3) := by decide +kernel
theorem d_Model_type_21 : decode Y_Model_type.2.1 21 = .ok (.iconst 1, 1) := by decide +kernel
theorem d_Model_type_22 : decode Y_Model_type.2.1 22 = .ok (.goto 24, 3) := by decide +kernel
theorem d_Model_type_25 : decode Y_Model_type.2.1 25 = .ok (.aload_n 0, 1) := by decide +kernel
theorem d_Model_type_26 : decode Y_Model_type.2.1 26 = .ok (.getfield 7, 3) := by decide +kernel
theorem d_Model_type_29 : decode Y_Model_type.2.1 29 = .ok (.iload_n 1, 1) := by decide +kernel
theorem d_Model_type_30 : decode Y_Model_type.2.1 30 = .ok (.iaload, 1) := by decide +kernel
theorem d_Model_type_31 : decode Y_Model_type.2.1 31 = .ok (.ifCond .gt 10, 3) := by decide +kernel
theorem d_Model_type_34 : decode Y_Model_type.2.1 34 = .ok (.aload_n 0, 1) := by decide +kernel
theorem d_Model_type_35 : decode Y_Model_type.2.1 35 = .ok (.getfield 149, 3) := by decide +kernel
theorem d_Model_type_38 : decode Y_Model_type.2.1 38 = .ok (.ifCond .eq 7, 3) := by decide +kernel
theorem d_Model_type_41 : decode Y_Model_type.2.1 41 = .ok (.iconst 2, 1) := by decide +kernel
theorem d_Model_type_42 : decode Y_Model_type.2.1 42 = .ok (.goto 4, 3) := by decide +kernel
theorem d_Model_type_45 : decode Y_Model_type.2.1 45 = .ok (.iconst 0, 1) := by decide +kernel
theorem d_Model_type_46 : decode Y_Model_type.2.1 46 = .ok (.invokevirtual 153, 3) := by decide +kernel
theorem d_Model_type_49 : decode Y_Model_type.2.1 49 = .ok (.ifCond .eq 4, 3) := by decide +kernel
theorem d_Model_type_52 : decode Y_Model_type.2.1 52 = .ok (.return_, 1) := by decide +kernel
theorem d_Model_type_53 : decode Y_Model_type.2.1 53 = .ok (.aload_n 0, 1) := by decide +kernel
theorem d_Model_type_54 : decode Y_Model_type.2.1 54 = .ok (.getfield 7, 3) := by decide +kernel
theorem d_Model_type_57 : decode Y_Model_type.2.1 57 = .ok (.iload_n 1, 1) := by decide +kernel
theorem d_Model_type_58 : decode Y_Model_type.2.1 58 = .ok (.iconst 1, 1) := by decide +kernel
theorem d_Model_type_59 : decode Y_Model_type.2.1 59 = .ok (.iload_n 2, 1) := by decide +kernel
theorem d_Model_type_60 : decode Y_Model_type.2.1 60 = .ok (.iadd, 1) := by decide +kernel
theorem d_Model_type_61 : decode Y_Model_type.2.1 61 = .ok (.iastore, 1) := by decide +kernel
theorem d_Model_type_62 : decode Y_Model_type.2.1 62 = .ok (.iconst 0, 1) := by decide +kernel
theorem d_Model_type_63 : decode Y_Model_type.2.1 63 = .ok (.istore_n 3, 1) := by decide +kernel
theorem d_Model_type_64 : decode Y_Model_type.2.1 64 = .ok (.iload_n 3, 1) := by decide +kernel
theorem d_Model_type_65 : decode Y_Model_type.2.1 65 = .ok (.bipush 8, 2) := by decide +kernel
theorem d_Model_type_67 : decode Y_Model_type.2.1 67 = .ok (.if_icmp .ge 21, 3) := by decide +kernel
theorem d_Model_type_70 : decode Y_Model_type.2.1 70 = .ok (.aload_n 0, 1) := by decide +kernel
theorem d_Model_type_71 : decode Y_Model_type.2.1 71 = .ok (.getfield 13, 3) := by decide +kernel
theorem d_Model_type_74 : decode Y_Model_type.2.1 74 = .ok (.bipush 8, 2) := by decide +kernel
theorem d_Model_type_76 : decode Y_Model_type.2.1 76 = .ok (.iload_n 1, 1) := by decide +kernel
theorem d_Model_type_77 : decode Y_Model_type.2.1 77 = .ok (.imul, 1) := by decide +kernel
theorem d_Model_type_78 : decode Y_Model_type.2.1 78 = .ok (.iload_n 3, 1) := by decide +kernel
theorem d_Model_type_79 : decode Y_Model_type.2.1 79 = .ok (.iadd, 1) := by decide +kernel
theorem d_Model_type_80 : decode Y_Model_type.2.1 80 = .ok (.iconst 0, 1) := by decide +kernel
theorem d_Model_type_81 : decode Y_Model_type.2.1 81 = .ok (.iastore, 1) := by decide +kernel
theorem d_Model_type_82 : decode Y_Model_type.2.1 82 = .ok (.iinc 3 1, 3) := by decide +kernel
theorem d_Model_type_85 : decode Y_Model_type.2.1 85 = .ok (.goto (-21), 3) := by decide +kernel
theorem d_Model_type_88 : decode Y_Model_type.2.1 88 = .ok (.return_, 1) := by decide +kernel
theorem d_Model_clear_0 : decode Y_Model_clear.2.1 0 = .ok (.aload_n 0, 1) := by decide +kernel
theorem d_Model_clear_1 : decode Y_Model_clear.2.1 1 = .ok (.iconst 0, 1) := by decide +kernel
theorem d_Model_clear_2 : decode Y_Model_clear.2.1 2 = .ok (.putfield 138, 3) := by decide +kernel
theorem d_Model_clear_5 : decode Y_Model_clear.2.1 5 = .ok (.iconst 0, 1) := by decide +kernel
theorem d_Model_clear_6 : decode Y_Model_clear.2.1 6 = .ok (.istore_n 1, 1) := by decide +kernel
theorem d_Model_clear_7 : decode Y_Model_clear.2.1 7 = .ok (.iload_n 1, 1) := by decide +kernel
theorem d_Model_clear_8 : decode Y_Model_clear.2.1 8 = .ok (.bipush 16, 2) := by decide +kernel
theorem d_Model_clear_10 : decode Y_Model_clear.2.1 10 = .ok (.if_icmp .ge 16, 3) := by decide +kernel
theorem d_Model_clear_13 : decode Y_Model_clear.2.1 13 = .ok (.aload_n 0, 1) := by decide +kernel
theorem d_Model_clear_14 : decode Y_Model_clear.2.1 14 = .ok (.getfield 7, 3) := by decide +kernel
theorem d_Model_clear_17 : decode Y_Model_clear.2.1 17 = .ok (.iload_n 1, 1) := by decide +kernel
theorem d_Model_clear_18 : decode Y_Model_clear.2.1 18 = .ok (.iconst 0, 1) := by decide +kernel
theorem d_Model_clear_19 : decode Y_Model_clear.2.1 19 = .ok (.iastore, 1) := by decide +kernel
theorem d_Model_clear_20 : decode Y_Model_clear.2.1 20 = .ok (.iinc 1 1, 3) := by decide +kernel
theorem d_Model_clear_23 : decode Y_Model_clear.2.1 23 = .ok (.goto (-16), 3) := by decide +kernel
theorem d_Model_clear_26 : decode Y_Model_clear.2.1 26 = .ok (.aload_n 0, 1) := by decide +kernel
theorem d_Model_clear_27 : decode Y_Model_clear.2.1 27 = .ok (.iconst 0, 1) := by decide +kernel
theorem d_Model_clear_28 : decode Y_Model_clear.2.1 28 = .ok (.putfield 149, 3) := by decide +kernel
theorem d_Model_clear_31 : decode Y_Model_clear.2.1 31 = .ok (.aload_n 0, 1) := by decide +kernel
theorem d_Model_clear_32 : decode Y_Model_clear.2.1 32 = .ok (.iconst 0, 1) := by decide +kernel
theorem d_Model_clear_33 : decode Y_Model_clear.2.1 33 = .ok (.putfield 160, 3) := by decide +kernel
theorem d_Model_clear_36 : decode Y_Model_clear.2.1 36 = .ok (.aload_n 0, 1) := by decide +kernel
theorem d_Model_clear_37 : decode Y_Model_clear.2.1 37 = .ok (.iconst 0, 1) := by decide +kernel
theorem d_Model_clear_38 : decode Y_Model_clear.2.1 38 = .ok (.putfield 166, 3) := by decide +kernel
theorem d_Model_clear_41 : decode Y_Model_clear.2.1 41 = .ok (.aload_n 0, 1) := by decide +kernel
theorem d_Model_clear_42 : decode Y_Model_clear.2.1 42 = .ok (.iconst 0, 1) := by decide +kernel
theorem d_Model_clear_43 : decode Y_Model_clear.2.1 43 = .ok (.putfield 163, 3) := by decide +kernel
theorem d_Model_clear_46 : decode Y_Model_clear.2.1 46 = .ok (.aload_n 0, 1) := by decide +kernel
theorem d_Model_clear_47 : decode Y_Model_clear.2.1 47 = .ok (.iconst 0, 1) := by decide +kernel
theorem d_Model_clear_48 : decode Y_Model_clear.2.1 48 = .ok (.putfield 181, 3) := by decide +kernel
theorem d_Model_clear_51 : decode Y_Model_clear.2.1 51 = .ok (.aload_n 0, 1) := by decide +kernel
theorem d_Model_clear_52 : decode Y_Model_clear.2.1 52 = .ok (.iconst 0, 1) := by decide +kernel
theorem d_Model_clear_53 : decode Y_Model_clear.2.1 53 = .ok (.putfield 184, 3) := by decide +kernel
theorem d_Model_clear_56 : decode Y_Model_clear.2.1 56 = .ok (.aload_n 0, 1) := by decide +kernel
theorem d_Model_clear_57 : decode Y_Model_clear.2.1 57 = .ok (.invokevirtual 135, 3) := by decide +kernel
theorem d_Model_clear_60 : decode Y_Model_clear.2.1 60 = .ok (.return_, 1) := by decide +kernel
theorem d_Model_unused_0 : decode Y_Model_unused.2.1 0 = .ok (.aload_n 0, 1) := by decide +kernel
theorem d_Model_unused_1 : decode Y_Model_unused.2.1 1 = .ok (.iconst 0, 1) := by decide +kernel
theorem d_Model_unused_2 : decode Y_Model_unused.2.1 2 = .ok (.putfield 138, 3) := by decide +kernel
theorem d_Model_unused_5 : decode Y_Model_unused.2.1 5 = .ok (.iload_n 1, 1) := by decide +kernel
theorem d_Model_unused_6 : decode Y_Model_unused.2.1 6 = .ok (.istore_n 2, 1) := by decide +kernel
theorem d_Model_unused_7 : decode Y_Model_unused.2.1 7 = .ok (.iconst 0, 1) := by decide +kernel
theorem d_Model_unused_8 : decode Y_Model_unused.2.1 8 = .ok (.istore_n 3, 1) := by decide +kernel
theorem d_Model_unused_9 : decode Y_Model_unused.2.1 9 = .ok (.iload_n 3, 1) := by decide +kernel
theorem d_Model_unused_10 : decode Y_Model_unused.2.1 10 = .ok (.aload_n 0, 1) := by decide +kernel
theorem d_Model_unused_11 : decode Y_Model_unused.2.1 11 = .ok (.getfield 181, 3) := by decide +kernel
theorem d_Model_unused_14 : decode Y_Model_unused.2.1 14 = .ok (.if_icmp .ge 40, 3) := by decide +kernel
theorem d_Model_unused_17 : decode Y_Model_unused.2.1 17 = .ok (.aload_n 0, 1) := by decide +kernel
theorem d_Model_unused_18 : decode Y_Model_unused.2.1 18 = .ok (.getfield 184, 3) := by decide +kernel
theorem d_Model_unused_21 : decode Y_Model_unused.2.1 21 = .ok (.ifCond .eq 33, 3) := by decide +kernel
theorem d_Model_unused_24 : decode Y_Model_unused.2.1 24 = .ok (.iload_n 2, 1) := by decide +kernel
theorem d_Model_unused_25 : decode Y_Model_unused.2.1 25 = .ok (.ifCond .lt 29, 3) := by decide +kernel
theorem d_Model_unused_28 : decode Y_Model_unused.2.1 28 = .ok (.aload_n 0, 1) := by decide +kernel
theorem d_Model_unused_29 : decode Y_Model_unused.2.1 29 = .ok (.getfield 237, 3) := by decide +kernel
theorem d_Model_unused_32 : decode Y_Model_unused.2.1 32 = .ok (.iload_n 3, 1) := by decide +kernel
theorem d_Model_unused_33 : decode Y_Model_unused.2.1 33 = .ok (.ishr, 1) := by decide +kernel
theorem d_Model_unused_34 : decode Y_Model_unused.2.1 34 = .ok (.iconst 1, 1) := by decide +kernel
theorem d_Model_unused_35 : decode Y_Model_unused.2.1 35 = .ok (.iand, 1) := by decide +kernel
theorem d_Model_unused_36 : decode Y_Model_unused.2.1 36 = .ok (.ifCond .ne 12, 3) := by decide +kernel
theorem d_Model_unused_39 : decode Y_Model_unused.2.1 39 = .ok (.iload_n 2, 1) := by decide +kernel
theorem d_Model_unused_40 : decode Y_Model_unused.2.1 40 = .ok (.ifCond .ne 5, 3) := by decide +kernel
theorem d_Model_unused_43 : decode Y_Model_unused.2.1 43 = .ok (.iload_n 3, 1) := by decide +kernel
theorem d_Model_unused_44 : decode Y_Model_unused.2.1 44 = .ok (.ireturn, 1) := by decide +kernel
theorem d_Model_unused_45 : decode Y_Model_unused.2.1 45 = .ok (.iinc 2 (-1), 3) := by decide +kernel
theorem d_Model_unused_48 : decode Y_Model_unused.2.1 48 = .ok (.iinc 3 1, 3) := by decide +kernel
theorem d_Model_unused_51 : decode Y_Model_unused.2.1 51 = .ok (.goto (-42), 3) := by decide +kernel
theorem d_Model_unused_54 : decode Y_Model_unused.2.1 54 = .ok (.iconst (-1), 1) := by decide +kernel
theorem d_Model_unused_55 : decode Y_Model_unused.2.1 55 = .ok (.ireturn, 1) := by decide +kernel
theorem d_Model_name_0 : decode Y_Model_name.2.1 0 = .ok (.iload_n 1, 1) := by decide +kernel
theorem d_Model_name_1 : decode Y_Model_name.2.1 1 = .ok (.ifCond .lt 13, 3) := by decide +kernel
theorem d_Model_name_4 : decode Y_Model_name.2.1 4 = .ok (.iload_n 1, 1) := by decide +kernel
theorem d_Model_name_5 : decode Y_Model_name.2.1 5 = .ok (.bipush 8, 2) := by decide +kernel
theorem d_Model_name_7 : decode Y_Model_name.2.1 7 = .ok (.if_icmp .ge 7, 3) := by decide +kernel
theorem d_Model_name_10 : decode Y_Model_name.2.1 10 = .ok (.iconst 1, 1) := by decide +kernel
theorem d_Model_name_11 : decode Y_Model_name.2.1 11 = .ok (.goto 4, 3) := by decide +kernel
theorem d_Model_name_14 : decode Y_Model_name.2.1 14 = .ok (.iconst 0, 1) := by decide +kernel
theorem d_Model_name_15 : decode Y_Model_name.2.1 15 = .ok (.istore_n 2, 1) := by decide +kernel
theorem d_Model_name_16 : decode Y_Model_name.2.1 16 = .ok (.aload_n 0, 1) := by decide +kernel
theorem d_Model_name_17 : decode Y_Model_name.2.1 17 = .ok (.iload_n 2, 1) := by decide +kernel
theorem d_Model_name_18 : decode Y_Model_name.2.1 18 = .ok (.ifCond .ne 7, 3) := by decide +kernel
theorem d_Model_name_21 : decode Y_Model_name.2.1 21 = .ok (.iconst 1, 1) := by decide +kernel
theorem d_Model_name_22 : decode Y_Model_name.2.1 22 = .ok (.goto 39, 3) := by decide +kernel
theorem d_Model_name_25 : decode Y_Model_name.2.1 25 = .ok (.aload_n 0, 1) := by decide +kernel
theorem d_Model_name_26 : decode Y_Model_name.2.1 26 = .ok (.getfield 166, 3) := by decide +kernel
theorem d_Model_name_29 : decode Y_Model_name.2.1 29 = .ok (.ifCond .eq 27, 3) := by decide +kernel
theorem d_Model_name_32 : decode Y_Model_name.2.1 32 = .ok (.aload_n 0, 1) := by decide +kernel
theorem d_Model_name_33 : decode Y_Model_name.2.1 33 = .ok (.getfield 34, 3) := by decide +kernel
theorem d_Model_name_36 : decode Y_Model_name.2.1 36 = .ok (.aload_n 0, 1) := by decide +kernel
theorem d_Model_name_37 : decode Y_Model_name.2.1 37 = .ok (.getfield 37, 3) := by decide +kernel
theorem d_Model_name_40 : decode Y_Model_name.2.1 40 = .ok (.aload_n 0, 1) := by decide +kernel
theorem d_Model_name_41 : decode Y_Model_name.2.1 41 = .ok (.getfield 166, 3) := by decide +kernel
theorem d_Model_name_44 : decode Y_Model_name.2.1 44 = .ok (.iconst 1, 1) := by decide +kernel
theorem d_Model_name_45 : decode Y_Model_name.2.1 45 = .ok (.isub, 1) := by decide +kernel
theorem d_Model_name_46 : decode Y_Model_name.2.1 46 = .ok (.iaload, 1) := by decide +kernel
theorem d_Model_name_47 : decode Y_Model_name.2.1 47 = .ok (.iaload, 1) := by decide +kernel
theorem d_Model_name_48 : decode Y_Model_name.2.1 48 = .ok (.iload_n 1, 1) := by decide +kernel
theorem d_Model_name_49 : decode Y_Model_name.2.1 49 = .ok (.ishr, 1) := by decide +kernel
theorem d_Model_name_50 : decode Y_Model_name.2.1 50 = .ok (.iconst 1, 1) := by decide +kernel
theorem d_Model_name_51 : decode Y_Model_name.2.1 51 = .ok (.iand, 1) := by decide +kernel
theorem d_Model_name_52 : decode Y_Model_name.2.1 52 = .ok (.iconst 1, 1) := by decide +kernel
theorem d_Model_name_53 : decode Y_Model_name.2.1 53 = .ok (.if_icmp .ne 7, 3) := by decide +kernel
theorem d_Model_name_56 : decode Y_Model_name.2.1 56 = .ok (.iconst 2, 1) := by decide +kernel
theorem d_Model_name_57 : decode Y_Model_name.2.1 57 = .ok (.goto 4, 3) := by decide +kernel
theorem d_Model_name_60 : decode Y_Model_name.2.1 60 = .ok (.iconst 0, 1) := by decide +kernel
theorem d_Model_name_61 : decode Y_Model_name.2.1 61 = .ok (.invokevirtual 153, 3) := by decide +kernel
theorem d_Model_name_64 : decode Y_Model_name.2.1 64 = .ok (.ifCond .eq 5, 3) := by decide +kernel
theorem d_Model_name_67 : decode Y_Model_name.2.1 67 = .ok (.iconst 0, 1) := by decide +kernel
theorem d_Model_name_68 : decode Y_Model_name.2.1 68 = .ok (.ireturn, 1) := by decide +kernel
theorem d_Model_name_69 : decode Y_Model_name.2.1 69 = .ok (.aload_n 0, 1) := by decide +kernel
theorem d_Model_name_70 : decode Y_Model_name.2.1 70 = .ok (.getfield 37, 3) := by decide +kernel
theorem d_Model_name_73 : decode Y_Model_name.2.1 73 = .ok (.aload_n 0, 1) := by decide +kernel
theorem d_Model_name_74 : decode Y_Model_name.2.1 74 = .ok (.getfield 166, 3) := by decide +kernel
theorem d_Model_name_77 : decode Y_Model_name.2.1 77 = .ok (.iconst 1, 1) := by decide +kernel
theorem d_Model_name_78 : decode Y_Model_name.2.1 78 = .ok (.isub, 1) := by decide +kernel
theorem d_Model_name_79 : decode Y_Model_name.2.1 79 = .ok (.iaload, 1) := by decide +kernel
theorem d_Model_name_80 : decode Y_Model_name.2.1 80 = .ok (.istore_n 3, 1) := by decide +kernel
theorem d_Model_name_81 : decode Y_Model_name.2.1 81 = .ok (.aload_n 0, 1) := by decide +kernel
theorem d_Model_name_82 : decode Y_Model_name.2.1 82 = .ok (.iconst 4, 1) := by decide +kernel
theorem d_Model_name_83 : decode Y_Model_name.2.1 83 = .ok (.aload_n 0, 1) := by decide +kernel
theorem d_Model_name_84 : decode Y_Model_name.2.1 84 = .ok (.getfield 22, 3) := by decide +kernel
theorem d_Model_name_87 : decode Y_Model_name.2.1 87 = .ok (.iload_n 3, 1) := by decide +kernel
theorem d_Model_name_88 : decode Y_Model_name.2.1 88 = .ok (.iaload, 1) := by decide +kernel
theorem d_Model_name_89 : decode Y_Model_name.2.1 89 = .ok (.iload_n 1, 1) := by decide +kernel
theorem d_Model_name_90 : decode Y_Model_name.2.1 90 = .ok (.aload_n 0, 1) := by decide +kernel
theorem d_Model_name_91 : decode Y_Model_name.2.1 91 = .ok (.getfield 31, 3) := by decide +kernel
theorem d_Model_name_94 : decode Y_Model_name.2.1 94 = .ok (.iload_n 3, 1) := by decide +kernel
theorem d_Model_name_95 : decode Y_Model_name.2.1 95 = .ok (.iaload, 1) := by decide +kernel
theorem d_Model_name_96 : decode Y_Model_name.2.1 96 = .ok (.aload_n 0, 1) := by decide +kernel
theorem d_Model_name_97 : decode Y_Model_name.2.1 97 = .ok (.getfield 34, 3) := by decide +kernel
theorem d_Model_name_100 : decode Y_Model_name.2.1 100 = .ok (.iload_n 3, 1) := by decide +kernel
theorem d_Model_name_101 : decode Y_Model_name.2.1 101 = .ok (.iaload, 1) := by decide +kernel
theorem d_Model_name_102 : decode Y_Model_name.2.1 102 = .ok (.iconst 1, 1) := by decide +kernel
theorem d_Model_name_103 : decode Y_Model_name.2.1 103 = .ok (.iload_n 1, 1) := by decide +kernel
theorem d_Model_name_104 : decode Y_Model_name.2.1 104 = .ok (.ishl, 1) := by decide +kernel
theorem d_Model_name_105 : decode Y_Model_name.2.1 105 = .ok (.ior, 1) := by decide +kernel
theorem d_Model_name_106 : decode Y_Model_name.2.1 106 = .ok (.invokevirtual 169, 3) := by decide +kernel
theorem d_Model_name_109 : decode Y_Model_name.2.1 109 = .ok (.istore 4, 2) := by decide +kernel
theorem d_Model_name_111 : decode Y_Model_name.2.1 111 = .ok (.aload_n 0, 1) := by decide +kernel
theorem d_Model_name_112 : decode Y_Model_name.2.1 112 = .ok (.getfield 28, 3) := by decide +kernel
theorem d_Model_name_115 : decode Y_Model_name.2.1 115 = .ok (.iconst 4, 1) := by decide +kernel
theorem d_Model_name_116 : decode Y_Model_name.2.1 116 = .ok (.iload 4, 2) := by decide +kernel
theorem d_Model_name_118 : decode Y_Model_name.2.1 118 = .ok (.imul, 1) := by decide +kernel
theorem d_Model_name_119 : decode Y_Model_name.2.1 119 = .ok (.iload_n 3, 1) := by decide +kernel
theorem d_Model_name_120 : decode Y_Model_name.2.1 120 = .ok (.iastore, 1) := by decide +kernel
theorem d_Model_name_121 : decode Y_Model_name.2.1 121 = .ok (.aload_n 0, 1) := by decide +kernel
theorem d_Model_name_122 : decode Y_Model_name.2.1 122 = .ok (.getfield 37, 3) := by decide +kernel
theorem d_Model_name_125 : decode Y_Model_name.2.1 125 = .ok (.aload_n 0, 1) := by decide +kernel
theorem d_Model_name_126 : decode Y_Model_name.2.1 126 = .ok (.getfield 166, 3) := by decide +kernel
theorem d_Model_name_129 : decode Y_Model_name.2.1 129 = .ok (.iconst 1, 1) := by decide +kernel
theorem d_Model_name_130 : decode Y_Model_name.2.1 130 = .ok (.isub, 1) := by decide +kernel
theorem d_Model_name_131 : decode Y_Model_name.2.1 131 = .ok (.iload 4, 2) := by decide +kernel
theorem d_Model_name_133 : decode Y_Model_name.2.1 133 = .ok (.iastore, 1) := by decide +kernel
theorem d_Model_name_134 : decode Y_Model_name.2.1 134 = .ok (.iconst 0, 1) := by decide +kernel
theorem d_Model_name_135 : decode Y_Model_name.2.1 135 = .ok (.istore 5, 2) := by decide +kernel
theorem d_Model_name_137 : decode Y_Model_name.2.1 137 = .ok (.iconst 0, 1) := by decide +kernel
theorem d_Model_name_138 : decode Y_Model_name.2.1 138 = .ok (.istore 6, 2) := by decide +kernel
theorem d_Model_name_140 : decode Y_Model_name.2.1 140 = .ok (.iload 6, 2) := by decide +kernel
theorem d_Model_name_142 : decode Y_Model_name.2.1 142 = .ok (.bipush 8, 2) := by decide +kernel
theorem d_Model_name_144 : decode Y_Model_name.2.1 144 = .ok (.if_icmp .ge 26, 3) := by decide +kernel
theorem d_Model_name_147 : decode Y_Model_name.2.1 147 = .ok (.iload 5, 2) := by decide +kernel
theorem d_Model_name_149 : decode Y_Model_name.2.1 149 = .ok (.aload_n 0, 1) := by decide +kernel
theorem d_Model_name_150 : decode Y_Model_name.2.1 150 = .ok (.getfield 34, 3) := by decide +kernel
theorem d_Model_name_153 : decode Y_Model_name.2.1 153 = .ok (.iload 4, 2) := by decide +kernel
theorem d_Model_name_155 : decode Y_Model_name.2.1 155 = .ok (.iaload, 1) := by decide +kernel
theorem d_Model_name_156 : decode Y_Model_name.2.1 156 = .ok (.iload 6, 2) := by decide +kernel
theorem d_Model_name_158 : decode Y_Model_name.2.1 158 = .ok (.ishr, 1) := by decide +kernel
theorem d_Model_name_159 : decode Y_Model_name.2.1 159 = .ok (.iconst 1, 1) := by decide +kernel
theorem d_Model_name_160 : decode Y_Model_name.2.1 160 = .ok (.iand, 1) := by decide +kernel
theorem d_Model_name_161 : decode Y_Model_name.2.1 161 = .ok (.iadd, 1) := by decide +kernel
theorem d_Model_name_162 : decode Y_Model_name.2.1 162 = .ok (.istore 5, 2) := by decide +kernel
theorem d_Model_name_164 : decode Y_Model_name.2.1 164 = .ok (.iinc 6 1, 3) := by decide +kernel
theorem d_Model_name_167 : decode Y_Model_name.2.1 167 = .ok (.goto (-27), 3) := by decide +kernel
theorem d_Model_name_170 : decode Y_Model_name.2.1 170 = .ok (.iload 5, 2) := by decide +kernel
theorem d_Model_name_172 : decode Y_Model_name.2.1 172 = .ok (.ireturn, 1) := by decide +kernel
theorem d_Model_either_0 : decode Y_Model_either.2.1 0 = .ok (.aload_n 0, 1) := by decide +kernel
theorem d_Model_either_1 : decode Y_Model_either.2.1 1 = .ok (.getfield 166, 3) := by decide +kernel
theorem d_Model_either_4 : decode Y_Model_either.2.1 4 = .ok (.iconst 1, 1) := by decide +kernel
theorem d_Model_either_5 : decode Y_Model_either.2.1 5 = .ok (.if_icmp .le 17, 3) := by decide +kernel
theorem d_Model_either_8 : decode Y_Model_either.2.1 8 = .ok (.aload_n 0, 1) := by decide +kernel
theorem d_Model_either_9 : decode Y_Model_either.2.1 9 = .ok (.getfield 37, 3) := by decide +kernel
theorem d_Model_either_12 : decode Y_Model_either.2.1 12 = .ok (.aload_n 0, 1) := by decide +kernel
theorem d_Model_either_13 : decode Y_Model_either.2.1 13 = .ok (.getfield 166, 3) := by decide +kernel
theorem d_Model_either_16 : decode Y_Model_either.2.1 16 = .ok (.iconst 1, 1) := by decide +kernel
theorem d_Model_either_17 : decode Y_Model_either.2.1 17 = .ok (.isub, 1) := by decide +kernel
theorem d_Model_either_18 : decode Y_Model_either.2.1 18 = .ok (.iaload, 1) := by decide +kernel
theorem d_Model_either_19 : decode Y_Model_either.2.1 19 = .ok (.goto 4, 3) := by decide +kernel
theorem d_Model_either_22 : decode Y_Model_either.2.1 22 = .ok (.iconst 0, 1) := by decide +kernel
theorem d_Model_either_23 : decode Y_Model_either.2.1 23 = .ok (.istore_n 1, 1) := by decide +kernel
theorem d_Model_either_24 : decode Y_Model_either.2.1 24 = .ok (.aload_n 0, 1) := by decide +kernel
theorem d_Model_either_25 : decode Y_Model_either.2.1 25 = .ok (.getfield 166, 3) := by decide +kernel
theorem d_Model_either_28 : decode Y_Model_either.2.1 28 = .ok (.iconst 1, 1) := by decide +kernel
theorem d_Model_either_29 : decode Y_Model_either.2.1 29 = .ok (.if_icmp .le 17, 3) := by decide +kernel
theorem d_Model_either_32 : decode Y_Model_either.2.1 32 = .ok (.aload_n 0, 1) := by decide +kernel
theorem d_Model_either_33 : decode Y_Model_either.2.1 33 = .ok (.getfield 37, 3) := by decide +kernel
theorem d_Model_either_36 : decode Y_Model_either.2.1 36 = .ok (.aload_n 0, 1) := by decide +kernel
theorem d_Model_either_37 : decode Y_Model_either.2.1 37 = .ok (.getfield 166, 3) := by decide +kernel
theorem d_Model_either_40 : decode Y_Model_either.2.1 40 = .ok (.iconst 2, 1) := by decide +kernel
theorem d_Model_either_41 : decode Y_Model_either.2.1 41 = .ok (.isub, 1) := by decide +kernel
theorem d_Model_either_42 : decode Y_Model_either.2.1 42 = .ok (.iaload, 1) := by decide +kernel
theorem d_Model_either_43 : decode Y_Model_either.2.1 43 = .ok (.goto 4, 3) := by decide +kernel
theorem d_Model_either_46 : decode Y_Model_either.2.1 46 = .ok (.iconst 0, 1) := by decide +kernel
theorem d_Model_either_47 : decode Y_Model_either.2.1 47 = .ok (.istore_n 2, 1) := by decide +kernel
theorem d_Model_either_48 : decode Y_Model_either.2.1 48 = .ok (.aload_n 0, 1) := by decide +kernel
theorem d_Model_either_49 : decode Y_Model_either.2.1 49 = .ok (.aload_n 0, 1) := by decide +kernel
theorem d_Model_either_50 : decode Y_Model_either.2.1 50 = .ok (.getfield 166, 3) := by decide +kernel
theorem d_Model_either_53 : decode Y_Model_either.2.1 53 = .ok (.iconst 2, 1) := by decide +kernel
theorem d_Model_either_54 : decode Y_Model_either.2.1 54 = .ok (.if_icmp .lt 53, 3) := by decide +kernel
theorem d_Model_either_57 : decode Y_Model_either.2.1 57 = .ok (.aload_n 0, 1) := by decide +kernel
theorem d_Model_either_58 : decode Y_Model_either.2.1 58 = .ok (.getfield 22, 3) := by decide +kernel
theorem d_Model_either_61 : decode Y_Model_either.2.1 61 = .ok (.iload_n 2, 1) := by decide +kernel
theorem d_Model_either_62 : decode Y_Model_either.2.1 62 = .ok (.iaload, 1) := by decide +kernel
theorem d_Model_either_63 : decode Y_Model_either.2.1 63 = .ok (.aload_n 0, 1) := by decide +kernel
theorem d_Model_either_64 : decode Y_Model_either.2.1 64 = .ok (.getfield 22, 3) := by decide +kernel
theorem d_Model_either_67 : decode Y_Model_either.2.1 67 = .ok (.iload_n 1, 1) := by decide +kernel
theorem d_Model_either_68 : decode Y_Model_either.2.1 68 = .ok (.iaload, 1) := by decide +kernel
theorem d_Model_either_69 : decode Y_Model_either.2.1 69 = .ok (.if_icmp .ne 38, 3) := by decide +kernel
theorem d_Model_either_72 : decode Y_Model_either.2.1 72 = .ok (.aload_n 0, 1) := by decide +kernel
theorem d_Model_either_73 : decode Y_Model_either.2.1 73 = .ok (.getfield 34, 3) := by decide +kernel
theorem d_Model_either_76 : decode Y_Model_either.2.1 76 = .ok (.iload_n 2, 1) := by decide +kernel
theorem d_Model_either_77 : decode Y_Model_either.2.1 77 = .ok (.iaload, 1) := by decide +kernel
theorem d_Model_either_78 : decode Y_Model_either.2.1 78 = .ok (.aload_n 0, 1) := by decide +kernel
theorem d_Model_either_79 : decode Y_Model_either.2.1 79 = .ok (.getfield 34, 3) := by decide +kernel
theorem d_Model_either_82 : decode Y_Model_either.2.1 82 = .ok (.iload_n 1, 1) := by decide +kernel
theorem d_Model_either_83 : decode Y_Model_either.2.1 83 = .ok (.iaload, 1) := by decide +kernel
theorem d_Model_either_84 : decode Y_Model_either.2.1 84 = .ok (.if_icmp .ne 23, 3) := by decide +kernel
theorem d_Model_either_87 : decode Y_Model_either.2.1 87 = .ok (.iconst 1, 1) := by decide +kernel
theorem d_Model_either_88 : decode Y_Model_either.2.1 88 = .ok (.aload_n 0, 1) := by decide +kernel
theorem d_Model_either_89 : decode Y_Model_either.2.1 89 = .ok (.getfield 31, 3) := by decide +kernel
theorem d_Model_either_92 : decode Y_Model_either.2.1 92 = .ok (.iload_n 2, 1) := by decide +kernel
theorem d_Model_either_93 : decode Y_Model_either.2.1 93 = .ok (.iaload, 1) := by decide +kernel
theorem d_Model_either_94 : decode Y_Model_either.2.1 94 = .ok (.iadd, 1) := by decide +kernel
theorem d_Model_either_95 : decode Y_Model_either.2.1 95 = .ok (.aload_n 0, 1) := by decide +kernel
theorem d_Model_either_96 : decode Y_Model_either.2.1 96 = .ok (.getfield 31, 3) := by decide +kernel
theorem d_Model_either_99 : decode Y_Model_either.2.1 99 = .ok (.iload_n 1, 1) := by decide +kernel
theorem d_Model_either_100 : decode Y_Model_either.2.1 100 = .ok (.iaload, 1) := by decide +kernel
theorem d_Model_either_101 : decode Y_Model_either.2.1 101 = .ok (.iadd, 1) := by decide +kernel
theorem d_Model_either_102 : decode Y_Model_either.2.1 102 = .ok (.bipush 24, 2) := by decide +kernel
theorem d_Model_either_104 : decode Y_Model_either.2.1 104 = .ok (.if_icmp .le 7, 3) := by decide +kernel
theorem d_Model_either_107 : decode Y_Model_either.2.1 107 = .ok (.iconst 1, 1) := by decide +kernel
theorem d_Model_either_108 : decode Y_Model_either.2.1 108 = .ok (.goto 4, 3) := by decide +kernel
theorem d_Model_either_111 : decode Y_Model_either.2.1 111 = .ok (.iconst 0, 1) := by decide +kernel
theorem d_Model_either_112 : decode Y_Model_either.2.1 112 = .ok (.invokevirtual 153, 3) := by decide +kernel
theorem d_Model_either_115 : decode Y_Model_either.2.1 115 = .ok (.ifCond .eq 5, 3) := by decide +kernel
theorem d_Model_either_118 : decode Y_Model_either.2.1 118 = .ok (.iconst 0, 1) := by decide +kernel
theorem d_Model_either_119 : decode Y_Model_either.2.1 119 = .ok (.ireturn, 1) := by decide +kernel
theorem d_Model_either_120 : decode Y_Model_either.2.1 120 = .ok (.aload_n 0, 1) := by decide +kernel
theorem d_Model_either_121 : decode Y_Model_either.2.1 121 = .ok (.iconst 3, 1) := by decide +kernel
theorem d_Model_either_122 : decode Y_Model_either.2.1 122 = .ok (.aload_n 0, 1) := by decide +kernel
theorem d_Model_either_123 : decode Y_Model_either.2.1 123 = .ok (.getfield 22, 3) := by decide +kernel
theorem d_Model_either_126 : decode Y_Model_either.2.1 126 = .ok (.iload_n 2, 1) := by decide +kernel
theorem d_Model_either_127 : decode Y_Model_either.2.1 127 = .ok (.iaload, 1) := by decide +kernel
theorem d_Model_either_128 : decode Y_Model_either.2.1 128 = .ok (.iconst 0, 1) := by decide +kernel
theorem d_Model_either_129 : decode Y_Model_either.2.1 129 = .ok (.iconst 1, 1) := by decide +kernel
theorem d_Model_either_130 : decode Y_Model_either.2.1 130 = .ok (.aload_n 0, 1) := by decide +kernel
theorem d_Model_either_131 : decode Y_Model_either.2.1 131 = .ok (.getfield 31, 3) := by decide +kernel
theorem d_Model_either_134 : decode Y_Model_either.2.1 134 = .ok (.iload_n 2, 1) := by decide +kernel
theorem d_Model_either_135 : decode Y_Model_either.2.1 135 = .ok (.iaload, 1) := by decide +kernel
theorem d_Model_either_136 : decode Y_Model_either.2.1 136 = .ok (.iadd, 1) := by decide +kernel
theorem d_Model_either_137 : decode Y_Model_either.2.1 137 = .ok (.aload_n 0, 1) := by decide +kernel
theorem d_Model_either_138 : decode Y_Model_either.2.1 138 = .ok (.getfield 31, 3) := by decide +kernel
theorem d_Model_either_141 : decode Y_Model_either.2.1 141 = .ok (.iload_n 1, 1) := by decide +kernel
theorem d_Model_either_142 : decode Y_Model_either.2.1 142 = .ok (.iaload, 1) := by decide +kernel
theorem d_Model_either_143 : decode Y_Model_either.2.1 143 = .ok (.iadd, 1) := by decide +kernel
theorem d_Model_either_144 : decode Y_Model_either.2.1 144 = .ok (.aload_n 0, 1) := by decide +kernel
theorem d_Model_either_145 : decode Y_Model_either.2.1 145 = .ok (.getfield 34, 3) := by decide +kernel
theorem d_Model_either_148 : decode Y_Model_either.2.1 148 = .ok (.iload_n 2, 1) := by decide +kernel
theorem d_Model_either_149 : decode Y_Model_either.2.1 149 = .ok (.iaload, 1) := by decide +kernel
theorem d_Model_either_150 : decode Y_Model_either.2.1 150 = .ok (.invokevirtual 169, 3) := by decide +kernel
theorem d_Model_either_153 : decode Y_Model_either.2.1 153 = .ok (.istore_n 3, 1) := by decide +kernel
theorem d_Model_either_154 : decode Y_Model_either.2.1 154 = .ok (.aload_n 0, 1) := by decide +kernel
theorem d_Model_either_155 : decode Y_Model_either.2.1 155 = .ok (.getfield 28, 3) := by decide +kernel
theorem d_Model_either_158 : decode Y_Model_either.2.1 158 = .ok (.iconst 4, 1) := by decide +kernel
theorem d_Model_either_159 : decode Y_Model_either.2.1 159 = .ok (.iload_n 3, 1) := by decide +kernel
theorem d_Model_either_160 : decode Y_Model_either.2.1 160 = .ok (.imul, 1) := by decide +kernel
theorem d_Model_either_161 : decode Y_Model_either.2.1 161 = .ok (.iload_n 2, 1) := by decide +kernel
theorem d_Model_either_162 : decode Y_Model_either.2.1 162 = .ok (.iastore, 1) := by decide +kernel
theorem d_Model_either_163 : decode Y_Model_either.2.1 163 = .ok (.aload_n 0, 1) := by decide +kernel
theorem d_Model_either_164 : decode Y_Model_either.2.1 164 = .ok (.getfield 28, 3) := by decide +kernel
theorem d_Model_either_167 : decode Y_Model_either.2.1 167 = .ok (.iconst 4, 1) := by decide +kernel
theorem d_Model_either_168 : decode Y_Model_either.2.1 168 = .ok (.iload_n 3, 1) := by decide +kernel
theorem d_Model_either_169 : decode Y_Model_either.2.1 169 = .ok (.imul, 1) := by decide +kernel
theorem d_Model_either_170 : decode Y_Model_either.2.1 170 = .ok (.iconst 1, 1) := by decide +kernel
theorem d_Model_either_171 : decode Y_Model_either.2.1 171 = .ok (.iadd, 1) := by decide +kernel
theorem d_Model_either_172 : decode Y_Model_either.2.1 172 = .ok (.iload_n 1, 1) := by decide +kernel
theorem d_Model_either_173 : decode Y_Model_either.2.1 173 = .ok (.iastore, 1) := by decide +kernel
theorem d_Model_either_174 : decode Y_Model_either.2.1 174 = .ok (.aload_n 0, 1) := by decide +kernel
theorem d_Model_either_175 : decode Y_Model_either.2.1 175 = .ok (.dup, 1) := by decide +kernel
theorem d_Model_either_176 : decode Y_Model_either.2.1 176 = .ok (.getfield 166, 3) := by decide +kernel
theorem d_Model_either_179 : decode Y_Model_either.2.1 179 = .ok (.iconst 2, 1) := by decide +kernel
theorem d_Model_either_180 : decode Y_Model_either.2.1 180 = .ok (.isub, 1) := by decide +kernel
theorem d_Model_either_181 : decode Y_Model_either.2.1 181 = .ok (.putfield 166, 3) := by decide +kernel
theorem d_Model_either_184 : decode Y_Model_either.2.1 184 = .ok (.aload_n 0, 1) := by decide +kernel
theorem d_Model_either_185 : decode Y_Model_either.2.1 185 = .ok (.iload_n 3, 1) := by decide +kernel
theorem d_Model_either_186 : decode Y_Model_either.2.1 186 = .ok (.iconst 0, 1) := by decide +kernel
theorem d_Model_either_187 : decode Y_Model_either.2.1 187 = .ok (.invokevirtual 173, 3) := by decide +kernel
theorem d_Model_either_190 : decode Y_Model_either.2.1 190 = .ok (.ireturn, 1) := by decide +kernel
section MD2
variable {E : gE} {d : Nat} {G G0 : gS} {m n : Nat} {s : mS}
/-- f, with x from b on, k times -/
def blk (f : Nat → Int32) (b k : Nat) (x : Int32) : Nat → Int32 := fun j => if b ≤ j ∧ j < b + k then x else f j
theorem blk_0 {f : Nat → Int32} {b : Nat} {x : Int32} : blk f b 0 x = f := funext fun j => if_neg (by omega)
theorem blk_s {f : Nat → Int32} {b k : Nat} {x : Int32} : upd (blk f b k x) (b + k) x = blk f b (k + 1) x := by
  funext j
  simp only [upd, blk]
  by_cases e : j = b + k
  · rw [if_pos e, if_pos (by omega)]
  · rw [if_neg e]
    by_cases h : b ≤ j ∧ j < b + k
    · rw [if_pos h, if_pos (by omega)]
    · rw [if_neg h, if_neg (by omega)]
theorem wR_0 {j : Nat} {b : Nat} {x : Int32} : wR s j (blk (s.2 j) b 0 x) = s := by
  rw [blk_0]
  refine Prod.ext rfl (funext fun i => ?_)
  simp only [wR, upA]
  by_cases e : i = j
  · rw [if_pos e, e]
  · rw [if_neg e]
theorem wR_s {j : Nat} {f : Nat → Int32} {b k : Nat} {x : Int32} : wA (wR s j (blk f b k x)) j (b + k) x = wR s j (blk f b (k + 1) x) := by
  simp only [wA, wR, upA_at, blk_s]
  refine Prod.ext rfl (funext fun i => ?_)
  simp only [upA]
  by_cases e : i = j
  · rw [if_pos e, if_pos e]
  · rw [if_neg e, if_neg e, if_neg e]
set_option maxHeartbeats 400000 in
set_option maxRecDepth 100000 in
theorem m_W_type_loop (hmn : m < n) {t c : Int32} (h1 : ¬ t < 0) (h2 : tn t < 16) : ∀ (w k : Nat), 9 ≤ k + w → k ≤ 8 → GT E Y_Model_type (d + 1) G0 64 [(0, .ref m), (1, .int t), (2, .int c), (3, .int (nI k))] [] (mW E G m n (wR s 1 (blk (s.2 1) (8 * tn t) k 0))) (rIs none (mW E G m n (wR s 1 (blk (s.2 1) (8 * tn t) 8 0)))) := by
  intro w
  induction w with
  | zero => intro k h1 h2; omega
  | succ w ih =>
    intro k hm hkN
    refine g_iload_n d_Model_type_64 rfl ?_
    refine g_bipush (v := 8) d_Model_type_65 (by decide) ?_
    refine g_icmp_ge (tgt := 88) d_Model_type_67 (by decide) (fun c_67 => ?_) (fun c_67 => ?_)
    · refine g_vret rfl d_Model_type_88 ?_
      have e : k = 8 := by have := (le_hi (nI_hi (n := 8) (by decide)) (nI_hi (n := k) (by omega))).mp c_67; omega
      subst e
      exact ⟨rfl, rfl⟩
    · have hk : k < 8 := Nat.not_le.mp (fun q => c_67 ((le_hi (nI_hi (n := 8) (by decide)) (nI_hi (n := k) (by omega))).mpr q))
      refine g_aload_n d_Model_type_70 rfl ?_
      refine w_get (k := 2) fl_Model_13 (by decide) rfl d_Model_type_71 ?_
      refine g_bipush (v := 8) d_Model_type_74 (by decide) ?_
      refine g_iload_n d_Model_type_76 rfl ?_
      refine g_imul d_Model_type_77 ?_
      refine g_iload_n d_Model_type_78 rfl ?_
      refine g_iadd d_Model_type_79 ?_
      refine g_iconst (v := 0) d_Model_type_80 (by decide) ?_
      refine w_ast (j := 1) (q := 8 * tn t + k) hmn (by decide) (by decide) (add_hi (mul_hi i8 (tn_hi h1) (by omega)) (nI_hi (by omega)) (by omega)) (by show _ < 128; omega) d_Model_type_81 ?_
      refine g_iinc (v := nI k + 1) d_Model_type_82 rfl (by rfl) (by decide) rfl ?_
      refine g_goto (tgt := 64) d_Model_type_85 (by decide) ?_
      rw [wR_s]
      rw [nI_1]
      exact ih (k + 1) (by omega) (by omega)
def rType (s : mS) (t c : Int32) : mS := if t < 0 ∨ 15 < t ∨ c < 0 ∨ ¬ c ≤ 8 then wF s 0 1 else if 0 < s.2 0 (tn t) ∨ ¬ s.1 4 = 0 then wF s 0 2 else wR (wA (wF s 0 0) 0 (tn t) (1 + c)) 1 (blk (s.2 1) (8 * tn t) 8 0)
set_option maxHeartbeats 400000 in
set_option maxRecDepth 100000 in
theorem m_W_type (hmn : m < n) (t c : Int32) : GM E Y_Model_type (d + 1) [.ref m, .int t, .int c] (mW E G m n s) (rIs none (mW E G m n (rType s t c))) := by
  refine g_entry (by decide) (by simp [Value.category]) (Nat.le_of_ble_eq_true rfl) ?_
  refine g_aload_n d_Model_type_0 rfl ?_
  refine g_iload_n d_Model_type_1 rfl ?_
  refine g_if_lt (tgt := 21) d_Model_type_2 (by decide) (fun c_2 => ?_) (fun c_2 => ?_)
  · refine g_iconst (v := 1) d_Model_type_21 (by decide) ?_
    refine g_goto (tgt := 46) d_Model_type_22 (by decide) ?_
    refine c_Vr (as := [.int (1)]) kv_Model_refuses ml_Model_153 rfl mw_f (m_W_refuses1 (s := s) hmn) rfl (Nat.le_of_ble_eq_true rfl) rfl d_Model_type_46 rfl ?_
    refine g_if_eq (tgt := 53) d_Model_type_49 (by decide) (fun c_49 => absurd c_49 (by decide)) (fun c_49 => ?_)
    refine g_vret rfl d_Model_type_52 ?_
    have e : rType s t c = (wF s 0 (1)) := by first | (simp only [rType, c_2, not_true_eq_false, not_false_eq_true, and_true, true_and, and_false, false_and, and_self, or_true, true_or, or_false, false_or, or_self, if_true, if_false, ite_true, ite_false]; done) | (simp [rType, c_2]; done) | (simp_all [rType]; done)
    rw [e]
    exact ⟨rfl, rfl⟩
  · refine g_iload_n d_Model_type_5 rfl ?_
    refine g_bipush (v := 15) d_Model_type_6 (by decide) ?_
    refine g_icmp_gt (tgt := 21) d_Model_type_8 (by decide) (fun c_8 => ?_) (fun c_8 => ?_)
    · refine g_iconst (v := 1) d_Model_type_21 (by decide) ?_
      refine g_goto (tgt := 46) d_Model_type_22 (by decide) ?_
      refine c_Vr (as := [.int (1)]) kv_Model_refuses ml_Model_153 rfl mw_f (m_W_refuses1 (s := s) hmn) rfl (Nat.le_of_ble_eq_true rfl) rfl d_Model_type_46 rfl ?_
      refine g_if_eq (tgt := 53) d_Model_type_49 (by decide) (fun c_49 => absurd c_49 (by decide)) (fun c_49 => ?_)
      refine g_vret rfl d_Model_type_52 ?_
      have e : rType s t c = (wF s 0 (1)) := by first | (simp only [rType, c_2, c_8, not_true_eq_false, not_false_eq_true, and_true, true_and, and_false, false_and, and_self, or_true, true_or, or_false, false_or, or_self, if_true, if_false, ite_true, ite_false]; done) | (simp [rType, c_2, c_8]; done) | (simp_all [rType]; done)
      rw [e]
      exact ⟨rfl, rfl⟩
    · refine g_iload_n d_Model_type_11 rfl ?_
      refine g_if_lt (tgt := 21) d_Model_type_12 (by decide) (fun c_12 => ?_) (fun c_12 => ?_)
      · refine g_iconst (v := 1) d_Model_type_21 (by decide) ?_
        refine g_goto (tgt := 46) d_Model_type_22 (by decide) ?_
        refine c_Vr (as := [.int (1)]) kv_Model_refuses ml_Model_153 rfl mw_f (m_W_refuses1 (s := s) hmn) rfl (Nat.le_of_ble_eq_true rfl) rfl d_Model_type_46 rfl ?_
        refine g_if_eq (tgt := 53) d_Model_type_49 (by decide) (fun c_49 => absurd c_49 (by decide)) (fun c_49 => ?_)
        refine g_vret rfl d_Model_type_52 ?_
        have e : rType s t c = (wF s 0 (1)) := by first | (simp only [rType, c_2, c_8, c_12, not_true_eq_false, not_false_eq_true, and_true, true_and, and_false, false_and, and_self, or_true, true_or, or_false, false_or, or_self, if_true, if_false, ite_true, ite_false]; done) | (simp [rType, c_2, c_8, c_12]; done) | (simp_all [rType]; done)
        rw [e]
        exact ⟨rfl, rfl⟩
      · refine g_iload_n d_Model_type_15 rfl ?_
        refine g_bipush (v := 8) d_Model_type_16 (by decide) ?_
        refine g_icmp_le (tgt := 25) d_Model_type_18 (by decide) (fun c_18 => ?_) (fun c_18 => ?_)
        · refine g_aload_n d_Model_type_25 rfl ?_
          refine w_get (k := 1) fl_Model_7 (by decide) rfl d_Model_type_26 ?_
          refine g_iload_n d_Model_type_29 rfl ?_
          refine w_ald (j := 0) (q := tn t) (x := s.2 0 (tn t)) hmn (by decide) (by decide) (tn_hi c_2) (show _ < 16 from (Nat.lt_succ_of_le (Nat.not_lt.mp (fun q => c_8 ((lt_hi (by decide) (tn_hi c_2)).mpr q))))) rfl d_Model_type_30 ?_
          refine g_if_gt (tgt := 41) d_Model_type_31 (by decide) (fun c_31 => ?_) (fun c_31 => ?_)
          · refine g_iconst (v := 2) d_Model_type_41 (by decide) ?_
            refine g_goto (tgt := 46) d_Model_type_42 (by decide) ?_
            refine c_Vr (as := [.int (2)]) kv_Model_refuses ml_Model_153 rfl mw_f (m_W_refuses2 (s := s) hmn) rfl (Nat.le_of_ble_eq_true rfl) rfl d_Model_type_46 rfl ?_
            refine g_if_eq (tgt := 53) d_Model_type_49 (by decide) (fun c_49 => absurd c_49 (by decide)) (fun c_49 => ?_)
            refine g_vret rfl d_Model_type_52 ?_
            have e : rType s t c = (wF s 0 (2)) := by first | (simp only [rType, c_2, c_8, c_12, c_18, c_31, not_true_eq_false, not_false_eq_true, and_true, true_and, and_false, false_and, and_self, or_true, true_or, or_false, false_or, or_self, if_true, if_false, ite_true, ite_false]; done) | (simp [rType, c_2, c_8, c_12, c_18, c_31]; done) | (simp_all [rType]; done)
            rw [e]
            exact ⟨rfl, rfl⟩
          · refine g_aload_n d_Model_type_34 rfl ?_
            refine w_get (k := 4) (x := .int (s.1 4)) fl_Model_149 (by decide) rfl d_Model_type_35 ?_
            refine g_if_eq (tgt := 45) d_Model_type_38 (by decide) (fun c_38 => ?_) (fun c_38 => ?_)
            · refine g_iconst (v := 0) d_Model_type_45 (by decide) ?_
              refine c_Vr (as := [.int (0)]) kv_Model_refuses ml_Model_153 rfl mw_f (m_W_refuses0 (s := s) hmn) rfl (Nat.le_of_ble_eq_true rfl) rfl d_Model_type_46 rfl ?_
              refine g_if_eq (tgt := 53) d_Model_type_49 (by decide) (fun c_49 => ?_) (fun c_49 => absurd c_49 (by decide))
              refine g_aload_n d_Model_type_53 rfl ?_
              refine w_get (k := 1) fl_Model_7 (by decide) rfl d_Model_type_54 ?_
              refine g_iload_n d_Model_type_57 rfl ?_
              refine g_iconst (v := 1) d_Model_type_58 (by decide) ?_
              refine g_iload_n d_Model_type_59 rfl ?_
              refine g_iadd d_Model_type_60 ?_
              refine w_ast (j := 0) (q := tn t) hmn (by decide) (by decide) (tn_hi c_2) (show _ < 16 from (Nat.lt_succ_of_le (Nat.not_lt.mp (fun q => c_8 ((lt_hi (by decide) (tn_hi c_2)).mpr q))))) d_Model_type_61 ?_
              refine g_iconst (v := 0) d_Model_type_62 (by decide) ?_
              refine g_istore_n d_Model_type_63 (by decide) rfl ?_
              have K := m_W_type_loop (E := E) (d := d) (G0 := mW E G m n s) (G := G) (s := (wA (wF s 0 (0)) 0 (tn t) ((1) + (c)))) hmn (c := c) c_2 (Nat.lt_succ_of_le (Nat.not_lt.mp (fun q => c_8 ((lt_hi (by decide) (tn_hi c_2)).mpr q)))) 9 0 (by omega) (by omega)
              rw [wR_0] at K
              have e : rType s t c = wR (wA (wF s 0 (0)) 0 (tn t) ((1) + (c))) 1 (blk (s.2 1) (8 * tn t) 8 0) := by first | (simp only [rType, c_2, c_8, c_12, c_18, c_31, c_38, not_true_eq_false, not_false_eq_true, and_true, true_and, and_false, false_and, and_self, or_true, true_or, or_false, false_or, or_self, if_true, if_false, ite_true, ite_false]; done) | (simp [rType, c_2, c_8, c_12, c_18, c_31, c_38]; done)
              rw [e]
              exact K
            · refine g_iconst (v := 2) d_Model_type_41 (by decide) ?_
              refine g_goto (tgt := 46) d_Model_type_42 (by decide) ?_
              refine c_Vr (as := [.int (2)]) kv_Model_refuses ml_Model_153 rfl mw_f (m_W_refuses2 (s := s) hmn) rfl (Nat.le_of_ble_eq_true rfl) rfl d_Model_type_46 rfl ?_
              refine g_if_eq (tgt := 53) d_Model_type_49 (by decide) (fun c_49 => absurd c_49 (by decide)) (fun c_49 => ?_)
              refine g_vret rfl d_Model_type_52 ?_
              have e : rType s t c = (wF s 0 (2)) := by first | (simp only [rType, c_2, c_8, c_12, c_18, c_31, c_38, not_true_eq_false, not_false_eq_true, and_true, true_and, and_false, false_and, and_self, or_true, true_or, or_false, false_or, or_self, if_true, if_false, ite_true, ite_false]; done) | (simp [rType, c_2, c_8, c_12, c_18, c_31, c_38]; done) | (simp_all [rType]; done)
              rw [e]
              exact ⟨rfl, rfl⟩
        · refine g_iconst (v := 1) d_Model_type_21 (by decide) ?_
          refine g_goto (tgt := 46) d_Model_type_22 (by decide) ?_
          refine c_Vr (as := [.int (1)]) kv_Model_refuses ml_Model_153 rfl mw_f (m_W_refuses1 (s := s) hmn) rfl (Nat.le_of_ble_eq_true rfl) rfl d_Model_type_46 rfl ?_
          refine g_if_eq (tgt := 53) d_Model_type_49 (by decide) (fun c_49 => absurd c_49 (by decide)) (fun c_49 => ?_)
          refine g_vret rfl d_Model_type_52 ?_
          have e : rType s t c = (wF s 0 (1)) := by first | (simp only [rType, c_2, c_8, c_12, c_18, not_true_eq_false, not_false_eq_true, and_true, true_and, and_false, false_and, and_self, or_true, true_or, or_false, false_or, or_self, if_true, if_false, ite_true, ite_false]; done) | (simp [rType, c_2, c_8, c_12, c_18]; done) | (simp_all [rType]; done)
          rw [e]
          exact ⟨rfl, rfl⟩
theorem m_W_forget (hmn : m < n) : GM E Y_Model_forget d [.ref m] (mW E G m n s) (rIs none (mW E G m n (wF (wR s 38 (fillF (s.2 38) 8 (-1))) 54 0))) := by
  have K := m_Model_forget (E := E) (d := d) (a := m) (n := n) (v := s.1) (f := s.2 38) (G := mW E G m n s) mw_f ((mw_a hmn (by decide)).trans (congrArg some (mArr_I (by decide) rfl))) (by omega)
  rw [← mArr_I (j := 38) (N := 8) (by decide) rfl, mw_upA hmn (by decide), mw_upF] at K
  exact K
set_option maxHeartbeats 400000 in
set_option maxRecDepth 100000 in
theorem m_W_clear_loop (hmn : m < n) : ∀ (w k : Nat), 17 ≤ k + w → k ≤ 16 → GT E Y_Model_clear (d + 1) G0 7 [(0, .ref m), (1, .int (nI k))] [] (mW E G m n (wR s 0 (blk (s.2 0) 0 k 0))) (rIs none (mW E G m n (wF (wR (wF (wF (wF (wF (wF (wF (wR s 0 (blk (s.2 0) 0 16 0)) 4 0) 5 0) 14 0) 15 0) 16 0) 19 0) 38 (fillF (s.2 38) 8 (-1))) 54 0))) := by
  intro w
  induction w with
  | zero => intro k h1 h2; omega
  | succ w ih =>
    intro k hm hkN
    refine g_iload_n d_Model_clear_7 rfl ?_
    refine g_bipush (v := 16) d_Model_clear_8 (by decide) ?_
    refine g_icmp_ge (tgt := 26) d_Model_clear_10 (by decide) (fun c_10 => ?_) (fun c_10 => ?_)
    · refine g_aload_n d_Model_clear_26 rfl ?_
      refine g_iconst (v := 0) d_Model_clear_27 (by decide) ?_
      refine w_put (k := 4) fl_Model_149 (by decide) rfl rfl rfl rfl (Nat.le_of_ble_eq_true rfl) d_Model_clear_28 ?_
      refine g_aload_n d_Model_clear_31 rfl ?_
      refine g_iconst (v := 0) d_Model_clear_32 (by decide) ?_
      refine w_put (k := 5) fl_Model_160 (by decide) rfl rfl rfl rfl (Nat.le_of_ble_eq_true rfl) d_Model_clear_33 ?_
      refine g_aload_n d_Model_clear_36 rfl ?_
      refine g_iconst (v := 0) d_Model_clear_37 (by decide) ?_
      refine w_put (k := 14) fl_Model_166 (by decide) rfl rfl rfl rfl (Nat.le_of_ble_eq_true rfl) d_Model_clear_38 ?_
      refine g_aload_n d_Model_clear_41 rfl ?_
      refine g_iconst (v := 0) d_Model_clear_42 (by decide) ?_
      refine w_put (k := 15) fl_Model_163 (by decide) rfl rfl rfl rfl (Nat.le_of_ble_eq_true rfl) d_Model_clear_43 ?_
      refine g_aload_n d_Model_clear_46 rfl ?_
      refine g_iconst (v := 0) d_Model_clear_47 (by decide) ?_
      refine w_put (k := 16) fl_Model_181 (by decide) rfl rfl rfl rfl (Nat.le_of_ble_eq_true rfl) d_Model_clear_48 ?_
      refine g_aload_n d_Model_clear_51 rfl ?_
      refine g_iconst (v := 0) d_Model_clear_52 (by decide) ?_
      refine w_put (k := 19) fl_Model_184 (by decide) rfl rfl rfl rfl (Nat.le_of_ble_eq_true rfl) d_Model_clear_53 ?_
      refine g_aload_n d_Model_clear_56 rfl ?_
      refine c_Vr (as := []) kv_Model_forget ml_Model_135 rfl mw_f (m_W_forget (s := (wF (wF (wF (wF (wF (wF (wR s 0 (blk (s.2 0) 0 k 0)) 4 (0)) 5 (0)) 14 (0)) 15 (0)) 16 (0)) 19 (0))) hmn) rfl (Nat.le_of_ble_eq_true rfl) rfl d_Model_clear_57 rfl ?_
      refine g_vret rfl d_Model_clear_60 ?_
      have e : k = 16 := by have := (le_hi (nI_hi (n := 16) (by decide)) (nI_hi (n := k) (by omega))).mp c_10; omega
      subst e
      exact ⟨rfl, rfl⟩
    · have hk : k < 16 := Nat.not_le.mp (fun q => c_10 ((le_hi (nI_hi (n := 16) (by decide)) (nI_hi (n := k) (by omega))).mpr q))
      refine g_aload_n d_Model_clear_13 rfl ?_
      refine w_get (k := 1) fl_Model_7 (by decide) rfl d_Model_clear_14 ?_
      refine g_iload_n d_Model_clear_17 rfl ?_
      refine g_iconst (v := 0) d_Model_clear_18 (by decide) ?_
      refine w_ast (j := 0) (q := k) hmn (by decide) (by decide) (nI_hi (by omega)) (show k < 16 from hk) d_Model_clear_19 ?_
      refine g_iinc (v := nI k + 1) d_Model_clear_20 rfl (by rfl) (by decide) rfl ?_
      refine g_goto (tgt := 7) d_Model_clear_23 (by decide) ?_
      have e := wR_s (s := s) (j := 0) (f := s.2 0) (b := 0) (k := k) (x := 0)
      rw [Nat.zero_add] at e
      rw [e]
      rw [nI_1]
      exact ih (k + 1) (by omega) (by omega)
def rClear (s : mS) : mS := wF (wR (wF (wF (wF (wF (wF (wF (wR (wF s 0 0) 0 (blk (s.2 0) 0 16 0)) 4 0) 5 0) 14 0) 15 0) 16 0) 19 0) 38 (fillF (s.2 38) 8 (-1))) 54 0
set_option maxHeartbeats 400000 in
set_option maxRecDepth 100000 in
theorem m_W_clear (hmn : m < n) : GM E Y_Model_clear (d + 1) [.ref m] (mW E G m n s) (rIs none (mW E G m n (rClear s))) := by
  refine g_entry (by decide) (by simp [Value.category]) (Nat.le_of_ble_eq_true rfl) ?_
  refine g_aload_n d_Model_clear_0 rfl ?_
  refine g_iconst (v := 0) d_Model_clear_1 (by decide) ?_
  refine w_put (k := 0) fl_Model_138 (by decide) rfl rfl rfl rfl (Nat.le_of_ble_eq_true rfl) d_Model_clear_2 ?_
  refine g_iconst (v := 0) d_Model_clear_5 (by decide) ?_
  refine g_istore_n d_Model_clear_6 (by decide) rfl ?_
  have K := m_W_clear_loop (E := E) (d := d) (G0 := mW E G m n s) (G := G) (s := (wF s 0 (0))) hmn 17 0 (by omega) (by omega)
  rw [wR_0] at K
  exact K
/-- unused: from case c on, left to go; w a bound -/
def rUn (s : mS) : Nat → Int32 → Int32 → Int32
  | 0, _, _ => -1
  | w + 1, c, l => if s.1 16 ≤ c ∨ s.1 19 = 0 ∨ l < 0 then -1 else if (s.1 24 >>> (c &&& 31)) &&& 1 = 0 then (if l = 0 then c else rUn s w (c + 1) (l + -1)) else rUn s w (c + 1) l
set_option maxHeartbeats 400000 in
set_option maxRecDepth 100000 in
theorem m_W_unused_loop (hmn : m < n) (h16 : ¬ s.1 16 < 0) (b16 : s.1 16 ≤ 20) (x : Int32) : ∀ (w k : Nat) (l : Int32), 21 ≤ k + w → k ≤ 20 → GT E Y_Model_unused d G0 9 [(0, .ref m), (1, .int x), (2, .int l), (3, .int (nI k))] [] (mW E G m n (wF s 0 0)) (rIs (some (.int (rUn s w (nI k) l))) (mW E G m n (wF s 0 0))) := by
  intro w
  induction w with
  | zero => intro k l h1 h2; omega
  | succ w ih =>
    intro k l hm hkN
    refine g_iload_n d_Model_unused_9 rfl ?_
    refine g_aload_n d_Model_unused_10 rfl ?_
    refine w_get (k := 16) (x := .int (s.1 16)) fl_Model_181 (by decide) rfl d_Model_unused_11 ?_
    refine g_icmp_ge (tgt := 54) d_Model_unused_14 (by decide) (fun c_14 => ?_) (fun c_14 => ?_)
    · refine g_iconst (v := (-1)) d_Model_unused_54 (by decide) ?_
      refine g_iret rfl d_Model_unused_55 ?_
      have e : rUn s (w + 1) (nI k) l = (-1) := by simp only [rUn, c_14, Int32.lt_irrefl, not_true_eq_false, not_false_eq_true, and_true, true_and, and_false, false_and, and_self, or_true, true_or, or_false, false_or, or_self, if_true, if_false, ite_true, ite_false]
      rw [e]
      exact ⟨rfl, rfl⟩
    · have hk : k < 20 := by
        have p : ¬ tn (s.1 16) ≤ k := fun q => c_14 ((le_hi (tn_hi h16) (nI_hi (n := k) (by omega))).mpr q)
        have := tn_ly h16 b16 (k := 20) (by decide)
        omega
      refine g_aload_n d_Model_unused_17 rfl ?_
      refine w_get (k := 19) (x := .int (s.1 19)) fl_Model_184 (by decide) rfl d_Model_unused_18 ?_
      refine g_if_eq (tgt := 54) d_Model_unused_21 (by decide) (fun c_21 => ?_) (fun c_21 => ?_)
      · refine g_iconst (v := (-1)) d_Model_unused_54 (by decide) ?_
        refine g_iret rfl d_Model_unused_55 ?_
        have e : rUn s (w + 1) (nI k) l = (-1) := by simp only [rUn, c_14, c_21, Int32.lt_irrefl, not_true_eq_false, not_false_eq_true, and_true, true_and, and_false, false_and, and_self, or_true, true_or, or_false, false_or, or_self, if_true, if_false, ite_true, ite_false]
        rw [e]
        exact ⟨rfl, rfl⟩
      · refine g_iload_n d_Model_unused_24 rfl ?_
        refine g_if_lt (tgt := 54) d_Model_unused_25 (by decide) (fun c_25 => ?_) (fun c_25 => ?_)
        · refine g_iconst (v := (-1)) d_Model_unused_54 (by decide) ?_
          refine g_iret rfl d_Model_unused_55 ?_
          have e : rUn s (w + 1) (nI k) l = (-1) := by simp only [rUn, c_14, c_21, c_25, Int32.lt_irrefl, not_true_eq_false, not_false_eq_true, and_true, true_and, and_false, false_and, and_self, or_true, true_or, or_false, false_or, or_self, if_true, if_false, ite_true, ite_false]
          rw [e]
          exact ⟨rfl, rfl⟩
        · refine g_aload_n d_Model_unused_28 rfl ?_
          refine w_get (k := 24) (x := .int (s.1 24)) fl_Model_237 (by decide) rfl d_Model_unused_29 ?_
          refine g_iload_n d_Model_unused_32 rfl ?_
          refine g_ishr d_Model_unused_33 ?_
          refine g_iconst (v := 1) d_Model_unused_34 (by decide) ?_
          refine g_iand d_Model_unused_35 ?_
          refine g_if_ne (tgt := 48) d_Model_unused_36 (by decide) (fun c_36 => ?_) (fun c_36 => ?_)
          · refine g_iinc (v := nI k + 1) d_Model_unused_48 rfl (by rfl) (by decide) rfl ?_
            refine g_goto (tgt := 9) d_Model_unused_51 (by decide) ?_
            have e : rUn s (w + 1) (nI k) l = rUn s w (nI k + 1) (l) := by simp only [rUn, c_14, c_21, c_25, c_36, not_true_eq_false, not_false_eq_true, and_true, true_and, and_false, false_and, and_self, or_true, true_or, or_false, false_or, or_self, if_true, if_false, ite_true, ite_false]
            rw [e, nI_1]
            exact ih (k + 1) _ (by omega) (by omega)
          · refine g_iload_n d_Model_unused_39 rfl ?_
            refine g_if_ne (tgt := 45) d_Model_unused_40 (by decide) (fun c_40 => ?_) (fun c_40 => ?_)
            · refine g_iinc (v := l + (-1)) d_Model_unused_45 rfl (by rfl) (by decide) rfl ?_
              refine g_iinc (v := nI k + 1) d_Model_unused_48 rfl (by rfl) (by decide) rfl ?_
              refine g_goto (tgt := 9) d_Model_unused_51 (by decide) ?_
              have e : rUn s (w + 1) (nI k) l = rUn s w (nI k + 1) (l + (-1)) := by simp only [rUn, c_14, c_21, c_25, c_36, c_40, not_true_eq_false, not_false_eq_true, and_true, true_and, and_false, false_and, and_self, or_true, true_or, or_false, false_or, or_self, if_true, if_false, ite_true, ite_false]
              rw [e, nI_1]
              exact ih (k + 1) _ (by omega) (by omega)
            · refine g_iload_n d_Model_unused_43 rfl ?_
              refine g_iret rfl d_Model_unused_44 ?_
              have e : rUn s (w + 1) (nI k) l = nI k := by simp only [rUn, c_14, c_21, c_25, c_36, c_40, Int32.lt_irrefl, not_true_eq_false, not_false_eq_true, and_true, true_and, and_false, false_and, and_self, or_true, true_or, or_false, false_or, or_self, if_true, if_false, ite_true, ite_false]
              rw [e]
              exact ⟨rfl, rfl⟩
set_option maxHeartbeats 400000 in
set_option maxRecDepth 100000 in
theorem m_W_unused (hmn : m < n) (h16 : ¬ s.1 16 < 0) (b16 : s.1 16 ≤ 20) (x : Int32) : GM E Y_Model_unused d [.ref m, .int x] (mW E G m n s) (rIs (some (.int (rUn s 21 0 x))) (mW E G m n (wF s 0 0))) := by
  refine g_entry (by decide) (by simp [Value.category]) (Nat.le_of_ble_eq_true rfl) ?_
  refine g_aload_n d_Model_unused_0 rfl ?_
  refine g_iconst (v := 0) d_Model_unused_1 (by decide) ?_
  refine w_put (k := 0) fl_Model_138 (by decide) rfl rfl rfl rfl (Nat.le_of_ble_eq_true rfl) d_Model_unused_2 ?_
  refine g_iload_n d_Model_unused_5 rfl ?_
  refine g_istore_n d_Model_unused_6 (by decide) rfl ?_
  refine g_iconst (v := 0) d_Model_unused_7 (by decide) ?_
  refine g_istore_n d_Model_unused_8 (by decide) rfl ?_
  exact m_W_unused_loop (s := s) hmn h16 b16 x 21 0 x (by omega) (by omega)
theorem nlt_hi {x : Int32} {k : Nat} (h : x.toInt = (k : Int)) : ¬ x < 0 := by
  have z : (0 : Int32).toInt = ((0 : Nat) : Int) := by decide
  exact fun q => absurd ((lt_hi h z).mp q) (Nat.not_lt_zero _)
theorem tn_eqk {x : Int32} {k : Nat} (h : x.toInt = (k : Int)) : tn x = k := by unfold tn; rw [h]; rfl
theorem lt2_le1 {x : Int32} : x < 2 ↔ x ≤ 1 := by
  rw [Int32.lt_iff_toInt_lt, Int32.le_iff_toInt_le]
  have a : (2 : Int32).toInt = 2 := by decide
  have b : (1 : Int32).toInt = 1 := by decide
  rw [a, b]
  omega
theorem tn_g1 {x : Int32} (h0 : ¬ x < 0) (h : ¬ x ≤ 1) : 2 ≤ tn x := by
  have p : ¬ tn x ≤ 1 := fun q => h ((le_hi (tn_hi h0) i1).mpr q)
  omega
/-- the bits of x below k, counted -/
def rBt (x : Int32) : Nat → Int32
  | 0 => 0
  | k + 1 => rBt x k + ((x >>> (nI k &&& 31)) &&& 1)
set_option maxHeartbeats 400000 in
set_option maxRecDepth 100000 in
theorem m_W_name_loop (hmn : m < n) {q1 q2 q3 q4 : Int32} {K : Nat} (hi : q4.toInt = (K : Int)) (hK : K < 700) : ∀ (w k : Nat), 9 ≤ k + w → k ≤ 8 → GT E Y_Model_name (d + 1) G0 140 [(0, .ref m), (1, .int q1), (2, .int q2), (3, .int q3), (4, .int q4), (5, .int (rBt (s.2 8 K) k)), (6, .int (nI k))] [] (mW E G m n s) (rIs (some (.int (rBt (s.2 8 K) 8))) (mW E G m n s)) := by
  intro w
  induction w with
  | zero => intro k h1 h2; omega
  | succ w ih =>
    intro k hm hkN
    refine g_iload d_Model_name_140 rfl ?_
    refine g_bipush (v := 8) d_Model_name_142 (by decide) ?_
    refine g_icmp_ge (tgt := 170) d_Model_name_144 (by decide) (fun c_144 => ?_) (fun c_144 => ?_)
    · refine g_iload d_Model_name_170 rfl ?_
      refine g_iret rfl d_Model_name_172 ?_
      have e : k = 8 := by have := (le_hi (nI_hi (n := 8) (by decide)) (nI_hi (n := k) (by omega))).mp c_144; omega
      subst e
      exact ⟨rfl, rfl⟩
    · have hk : k < 8 := Nat.not_le.mp (fun q => c_144 ((le_hi (nI_hi (n := 8) (by decide)) (nI_hi (n := k) (by omega))).mpr q))
      refine g_iload d_Model_name_147 rfl ?_
      refine g_aload_n d_Model_name_149 rfl ?_
      refine w_get (k := 11) fl_Model_34 (by decide) rfl d_Model_name_150 ?_
      refine g_iload d_Model_name_153 rfl ?_
      refine w_ald (j := 8) (q := K) (x := s.2 8 (K)) hmn (by decide) (by decide) hi (show K < 700 from hK) rfl d_Model_name_155 ?_
      refine g_iload d_Model_name_156 rfl ?_
      refine g_ishr d_Model_name_158 ?_
      refine g_iconst (v := 1) d_Model_name_159 (by decide) ?_
      refine g_iand d_Model_name_160 ?_
      refine g_iadd d_Model_name_161 ?_
      refine g_istore d_Model_name_162 (by decide) rfl ?_
      refine g_iinc (v := nI k + 1) d_Model_name_164 rfl (by rfl) (by decide) rfl ?_
      refine g_goto (tgt := 140) d_Model_name_167 (by decide) ?_
      rw [nI_1]
      exact ih (k + 1) (by omega) (by omega)
abbrev rTop (s : mS) : Int32 := s.2 9 (tn (s.1 14) - 1)
def rNameS (s : mS) (x : Int32) : mS := wA (wA (rNode (wF s 0 0) 4 (s.2 4 (tn (rTop s))) x (s.2 7 (tn (rTop s))) (s.2 8 (tn (rTop s)) ||| (1 <<< (x &&& 31)))) 6 (4 * tn (s.1 5)) (rTop s)) 9 (tn (s.1 14) - 1) (s.1 5 + 1 - 1)
def rName (s : mS) (x : Int32) : Int32 × mS := if ¬ (¬ x < 0 ∧ ¬ 8 ≤ x) then (0, wF s 0 1) else if s.1 14 = 0 ∨ (s.2 8 (tn (rTop s)) >>> (x &&& 31)) &&& 1 = 1 then (0, wF s 0 2) else (rBt ((rNameS s x).2 8 (tn (s.1 5))) 8, rNameS s x)
set_option maxHeartbeats 400000 in
set_option maxRecDepth 100000 in
theorem m_W_name (hmn : m < n) (h5 : ¬ s.1 5 < 0) (b5 : tn (s.1 5) < 700) (h14 : ¬ s.1 14 < 0) (b14 : s.1 14 ≤ 40) (hp : ∀ k, k < tn (s.1 14) → ¬ s.2 9 k < 0 ∧ tn (s.2 9 k) < 700) (x : Int32) : GM E Y_Model_name (d + 1) [.ref m, .int x] (mW E G m n s) (rIs (some (.int (rName s x).1)) (mW E G m n (rName s x).2)) := by
  refine g_entry (by decide) (by simp [Value.category]) (Nat.le_of_ble_eq_true rfl) ?_
  refine g_iload_n d_Model_name_0 rfl ?_
  refine g_if_lt (tgt := 14) d_Model_name_1 (by decide) (fun c_1 => ?_) (fun c_1 => ?_)
  · refine g_iconst (v := 0) d_Model_name_14 (by decide) ?_
    refine g_istore_n d_Model_name_15 (by decide) rfl ?_
    refine g_aload_n d_Model_name_16 rfl ?_
    refine g_iload_n d_Model_name_17 rfl ?_
    refine g_if_ne (tgt := 25) d_Model_name_18 (by decide) (fun c_18 => absurd c_18 (by decide)) (fun c_18 => ?_)
    refine g_iconst (v := 1) d_Model_name_21 (by decide) ?_
    refine g_goto (tgt := 61) d_Model_name_22 (by decide) ?_
    refine c_Vr (as := [.int (1)]) kv_Model_refuses ml_Model_153 rfl mw_f (m_W_refuses1 (s := s) hmn) rfl (Nat.le_of_ble_eq_true rfl) rfl d_Model_name_61 rfl ?_
    refine g_if_eq (tgt := 69) d_Model_name_64 (by decide) (fun c_64 => absurd c_64 (by decide)) (fun c_64 => ?_)
    refine g_iconst (v := 0) d_Model_name_67 (by decide) ?_
    refine g_iret rfl d_Model_name_68 ?_
    have e : rName s x = (0, (wF s 0 (1))) := by first | (simp only [rName, c_1, not_true_eq_false, not_false_eq_true, and_true, true_and, and_false, false_and, and_self, or_true, true_or, or_false, false_or, or_self, if_true, if_false, ite_true, ite_false]; done) | (simp [rName, c_1]; done) | (simp_all [rName]; done)
    rw [e]
    exact ⟨rfl, rfl⟩
  · refine g_iload_n d_Model_name_4 rfl ?_
    refine g_bipush (v := 8) d_Model_name_5 (by decide) ?_
    refine g_icmp_ge (tgt := 14) d_Model_name_7 (by decide) (fun c_7 => ?_) (fun c_7 => ?_)
    · refine g_iconst (v := 0) d_Model_name_14 (by decide) ?_
      refine g_istore_n d_Model_name_15 (by decide) rfl ?_
      refine g_aload_n d_Model_name_16 rfl ?_
      refine g_iload_n d_Model_name_17 rfl ?_
      refine g_if_ne (tgt := 25) d_Model_name_18 (by decide) (fun c_18 => absurd c_18 (by decide)) (fun c_18 => ?_)
      refine g_iconst (v := 1) d_Model_name_21 (by decide) ?_
      refine g_goto (tgt := 61) d_Model_name_22 (by decide) ?_
      refine c_Vr (as := [.int (1)]) kv_Model_refuses ml_Model_153 rfl mw_f (m_W_refuses1 (s := s) hmn) rfl (Nat.le_of_ble_eq_true rfl) rfl d_Model_name_61 rfl ?_
      refine g_if_eq (tgt := 69) d_Model_name_64 (by decide) (fun c_64 => absurd c_64 (by decide)) (fun c_64 => ?_)
      refine g_iconst (v := 0) d_Model_name_67 (by decide) ?_
      refine g_iret rfl d_Model_name_68 ?_
      have e : rName s x = (0, (wF s 0 (1))) := by first | (simp only [rName, c_1, c_7, not_true_eq_false, not_false_eq_true, and_true, true_and, and_false, false_and, and_self, or_true, true_or, or_false, false_or, or_self, if_true, if_false, ite_true, ite_false]; done) | (simp [rName, c_1, c_7]; done) | (simp_all [rName]; done)
      rw [e]
      exact ⟨rfl, rfl⟩
    · refine g_iconst (v := 1) d_Model_name_10 (by decide) ?_
      refine g_goto (tgt := 15) d_Model_name_11 (by decide) ?_
      refine g_istore_n d_Model_name_15 (by decide) rfl ?_
      refine g_aload_n d_Model_name_16 rfl ?_
      refine g_iload_n d_Model_name_17 rfl ?_
      refine g_if_ne (tgt := 25) d_Model_name_18 (by decide) (fun c_18 => ?_) (fun c_18 => absurd c_18 (by decide))
      refine g_aload_n d_Model_name_25 rfl ?_
      refine w_get (k := 14) (x := .int (s.1 14)) fl_Model_166 (by decide) rfl d_Model_name_26 ?_
      refine g_if_eq (tgt := 56) d_Model_name_29 (by decide) (fun c_29 => ?_) (fun c_29 => ?_)
      · refine g_iconst (v := 2) d_Model_name_56 (by decide) ?_
        refine g_goto (tgt := 61) d_Model_name_57 (by decide) ?_
        refine c_Vr (as := [.int (2)]) kv_Model_refuses ml_Model_153 rfl mw_f (m_W_refuses2 (s := s) hmn) rfl (Nat.le_of_ble_eq_true rfl) rfl d_Model_name_61 rfl ?_
        refine g_if_eq (tgt := 69) d_Model_name_64 (by decide) (fun c_64 => absurd c_64 (by decide)) (fun c_64 => ?_)
        refine g_iconst (v := 0) d_Model_name_67 (by decide) ?_
        refine g_iret rfl d_Model_name_68 ?_
        have e : rName s x = (0, (wF s 0 (2))) := by first | (simp only [rName, c_1, c_7, c_29, not_true_eq_false, not_false_eq_true, and_true, true_and, and_false, false_and, and_self, or_true, true_or, or_false, false_or, or_self, if_true, if_false, ite_true, ite_false]; done) | (simp [rName, c_1, c_7, c_29]; done) | (simp_all [rName]; done)
        rw [e]
        exact ⟨rfl, rfl⟩
      · refine g_aload_n d_Model_name_32 rfl ?_
        refine w_get (k := 11) fl_Model_34 (by decide) rfl d_Model_name_33 ?_
        refine g_aload_n d_Model_name_36 rfl ?_
        refine w_get (k := 12) fl_Model_37 (by decide) rfl d_Model_name_37 ?_
        refine g_aload_n d_Model_name_40 rfl ?_
        refine w_get (k := 14) (x := .int (s.1 14)) fl_Model_166 (by decide) rfl d_Model_name_41 ?_
        refine g_iconst (v := 1) d_Model_name_44 (by decide) ?_
        refine g_isub d_Model_name_45 ?_
        refine w_ald (j := 9) (q := tn (s.1 14) - 1) (x := s.2 9 (tn (s.1 14) - 1)) hmn (by decide) (by decide) (tn_s1 h14 c_29).1 (by show _ < 40; have := (tn_s1 h14 c_29).2; have := tn_ly h14 b14 (k := 40) (by decide); omega) rfl d_Model_name_46 ?_
        refine w_ald (j := 8) (q := tn (rTop s)) (x := s.2 8 (tn (rTop s))) hmn (by decide) (by decide) (tn_hi (hp _ (tn_s1 h14 c_29).2).1) (hp _ (tn_s1 h14 c_29).2).2 rfl d_Model_name_47 ?_
        refine g_iload_n d_Model_name_48 rfl ?_
        refine g_ishr d_Model_name_49 ?_
        refine g_iconst (v := 1) d_Model_name_50 (by decide) ?_
        refine g_iand d_Model_name_51 ?_
        refine g_iconst (v := 1) d_Model_name_52 (by decide) ?_
        refine g_icmp_ne (tgt := 60) d_Model_name_53 (by decide) (fun c_53 => ?_) (fun c_53 => ?_)
        · refine g_iconst (v := 0) d_Model_name_60 (by decide) ?_
          refine c_Vr (as := [.int (0)]) kv_Model_refuses ml_Model_153 rfl mw_f (m_W_refuses0 (s := s) hmn) rfl (Nat.le_of_ble_eq_true rfl) rfl d_Model_name_61 rfl ?_
          refine g_if_eq (tgt := 69) d_Model_name_64 (by decide) (fun c_64 => ?_) (fun c_64 => absurd c_64 (by decide))
          refine g_aload_n d_Model_name_69 rfl ?_
          refine w_get (k := 12) fl_Model_37 (by decide) rfl d_Model_name_70 ?_
          refine g_aload_n d_Model_name_73 rfl ?_
          refine w_get (k := 14) (x := .int (s.1 14)) fl_Model_166 (by decide) rfl d_Model_name_74 ?_
          refine g_iconst (v := 1) d_Model_name_77 (by decide) ?_
          refine g_isub d_Model_name_78 ?_
          refine w_ald (j := 9) (q := tn (s.1 14) - 1) (x := s.2 9 (tn (s.1 14) - 1)) hmn (by decide) (by decide) (tn_s1 h14 c_29).1 (by show _ < 40; have := (tn_s1 h14 c_29).2; have := tn_ly h14 b14 (k := 40) (by decide); omega) rfl d_Model_name_79 ?_
          refine g_istore_n d_Model_name_80 (by decide) rfl ?_
          refine g_aload_n d_Model_name_81 rfl ?_
          refine g_iconst (v := 4) d_Model_name_82 (by decide) ?_
          refine g_aload_n d_Model_name_83 rfl ?_
          refine w_get (k := 7) fl_Model_22 (by decide) rfl d_Model_name_84 ?_
          refine g_iload_n d_Model_name_87 rfl ?_
          refine w_ald (j := 4) (q := tn (rTop s)) (x := s.2 4 (tn (rTop s))) hmn (by decide) (by decide) (tn_hi (hp _ (tn_s1 h14 c_29).2).1) (hp _ (tn_s1 h14 c_29).2).2 rfl d_Model_name_88 ?_
          refine g_iload_n d_Model_name_89 rfl ?_
          refine g_aload_n d_Model_name_90 rfl ?_
          refine w_get (k := 10) fl_Model_31 (by decide) rfl d_Model_name_91 ?_
          refine g_iload_n d_Model_name_94 rfl ?_
          refine w_ald (j := 7) (q := tn (rTop s)) (x := s.2 7 (tn (rTop s))) hmn (by decide) (by decide) (tn_hi (hp _ (tn_s1 h14 c_29).2).1) (hp _ (tn_s1 h14 c_29).2).2 rfl d_Model_name_95 ?_
          refine g_aload_n d_Model_name_96 rfl ?_
          refine w_get (k := 11) fl_Model_34 (by decide) rfl d_Model_name_97 ?_
          refine g_iload_n d_Model_name_100 rfl ?_
          refine w_ald (j := 8) (q := tn (rTop s)) (x := s.2 8 (tn (rTop s))) hmn (by decide) (by decide) (tn_hi (hp _ (tn_s1 h14 c_29).2).1) (hp _ (tn_s1 h14 c_29).2).2 rfl d_Model_name_101 ?_
          refine g_iconst (v := 1) d_Model_name_102 (by decide) ?_
          refine g_iload_n d_Model_name_103 rfl ?_
          refine g_ishl d_Model_name_104 ?_
          refine g_ior d_Model_name_105 ?_
          refine c_Vr (as := [.int (4), .int (s.2 4 (tn (rTop s))), .int (x), .int (s.2 7 (tn (rTop s))), .int ((s.2 8 (tn (rTop s))) ||| ((1) <<< ((x) &&& 31)))]) kv_Model_node ml_Model_169 rfl mw_f (m_W_node (s := (wF s 0 (0))) hmn h5 b5 (4) (s.2 4 (tn (rTop s))) (x) (s.2 7 (tn (rTop s))) ((s.2 8 (tn (rTop s))) ||| ((1) <<< ((x) &&& 31)))) rfl (Nat.le_of_ble_eq_true rfl) rfl d_Model_name_106 rfl ?_
          refine g_istore d_Model_name_109 (by decide) rfl ?_
          have hN : (s.1 5 + 1 - 1).toInt = ((tn (s.1 5) : Nat) : Int) := (sub_hi (add_hi (tn_hi h5) i1 (by omega)) i1 (by omega))
          refine g_aload_n d_Model_name_111 rfl ?_
          refine w_get (k := 9) fl_Model_28 (by decide) rfl d_Model_name_112 ?_
          refine g_iconst (v := 4) d_Model_name_115 (by decide) ?_
          refine g_iload d_Model_name_116 rfl ?_
          refine g_imul d_Model_name_118 ?_
          refine g_iload_n d_Model_name_119 rfl ?_
          refine w_ast (j := 6) (q := 4 * tn (s.1 5)) hmn (by decide) (by decide) (mul_hi i4 hN (by omega)) (by show _ < 2800; omega) d_Model_name_120 ?_
          refine g_aload_n d_Model_name_121 rfl ?_
          refine w_get (k := 12) fl_Model_37 (by decide) rfl d_Model_name_122 ?_
          refine g_aload_n d_Model_name_125 rfl ?_
          refine w_get (k := 14) (x := .int (s.1 14)) fl_Model_166 (by decide) rfl d_Model_name_126 ?_
          refine g_iconst (v := 1) d_Model_name_129 (by decide) ?_
          refine g_isub d_Model_name_130 ?_
          refine g_iload d_Model_name_131 rfl ?_
          refine w_ast (j := 9) (q := tn (s.1 14) - 1) hmn (by decide) (by decide) (tn_s1 h14 c_29).1 (by show _ < 40; have := (tn_s1 h14 c_29).2; have := tn_ly h14 b14 (k := 40) (by decide); omega) d_Model_name_133 ?_
          refine g_iconst (v := 0) d_Model_name_134 (by decide) ?_
          refine g_istore d_Model_name_135 (by decide) rfl ?_
          refine g_iconst (v := 0) d_Model_name_137 (by decide) ?_
          refine g_istore d_Model_name_138 (by decide) rfl ?_
          have e : rName s x = (rBt ((rNameS s x).2 8 (tn (s.1 5))) 8, rNameS s x) := by simp only [rName, c_1, c_7, c_29, c_53, not_true_eq_false, not_false_eq_true, and_true, true_and, and_false, false_and, and_self, or_true, true_or, or_false, false_or, or_self, if_true, if_false, ite_true, ite_false]
          rw [e]
          exact m_W_name_loop (s := rNameS s x) hmn hN b5 9 0 (by omega) (by omega)
        · refine g_iconst (v := 2) d_Model_name_56 (by decide) ?_
          refine g_goto (tgt := 61) d_Model_name_57 (by decide) ?_
          refine c_Vr (as := [.int (2)]) kv_Model_refuses ml_Model_153 rfl mw_f (m_W_refuses2 (s := s) hmn) rfl (Nat.le_of_ble_eq_true rfl) rfl d_Model_name_61 rfl ?_
          refine g_if_eq (tgt := 69) d_Model_name_64 (by decide) (fun c_64 => absurd c_64 (by decide)) (fun c_64 => ?_)
          refine g_iconst (v := 0) d_Model_name_67 (by decide) ?_
          refine g_iret rfl d_Model_name_68 ?_
          have e : rName s x = (0, (wF s 0 (2))) := by first | (simp only [rName, c_1, c_7, c_29, c_53, not_true_eq_false, not_false_eq_true, and_true, true_and, and_false, false_and, and_self, or_true, true_or, or_false, false_or, or_self, if_true, if_false, ite_true, ite_false]; done) | (simp [rName, c_1, c_7, c_29, c_53]; done) | (simp_all [rName]; done)
          rw [e]
          exact ⟨rfl, rfl⟩
abbrev rSnd (s : mS) : Int32 := s.2 9 (tn (s.1 14) - 2)
def rEitherS (s : mS) : mS := wF (wA (wA (rNode (wF s 0 0) 3 (s.2 4 (tn (rSnd s))) 0 (1 + s.2 7 (tn (rSnd s)) + s.2 7 (tn (rTop s))) (s.2 8 (tn (rSnd s)))) 6 (4 * tn (s.1 5)) (rSnd s)) 6 (4 * tn (s.1 5) + 1) (rTop s)) 14 (s.1 14 - 2)
def rEither (s : mS) : Int32 × mS := if s.1 14 < 2 ∨ ¬ s.2 4 (tn (rSnd s)) = s.2 4 (tn (rTop s)) ∨ ¬ s.2 8 (tn (rSnd s)) = s.2 8 (tn (rTop s)) ∨ ¬ 1 + s.2 7 (tn (rSnd s)) + s.2 7 (tn (rTop s)) ≤ 24 then (0, wF s 0 1) else (rHt (rEitherS s) 0 + 1, rPush (rEitherS s) (s.1 5 + 1 - 1) 0)
set_option maxHeartbeats 400000 in
set_option maxRecDepth 100000 in
theorem m_W_either (hmn : m < n) (h5 : ¬ s.1 5 < 0) (b5 : tn (s.1 5) < 700) (h14 : ¬ s.1 14 < 0) (b14 : s.1 14 ≤ 40) (hp : ∀ k, k < tn (s.1 14) → ¬ s.2 9 k < 0 ∧ tn (s.2 9 k) < 700) : GM E Y_Model_either (d + 1) [.ref m] (mW E G m n s) (rIs (some (.int (rEither s).1)) (mW E G m n (rEither s).2)) := by
  refine g_entry (by decide) (by simp [Value.category]) (Nat.le_of_ble_eq_true rfl) ?_
  refine g_aload_n d_Model_either_0 rfl ?_
  refine w_get (k := 14) (x := .int (s.1 14)) fl_Model_166 (by decide) rfl d_Model_either_1 ?_
  refine g_iconst (v := 1) d_Model_either_4 (by decide) ?_
  refine g_icmp_le (tgt := 22) d_Model_either_5 (by decide) (fun c_5 => ?_) (fun c_5 => ?_)
  · refine g_iconst (v := 0) d_Model_either_22 (by decide) ?_
    refine g_istore_n d_Model_either_23 (by decide) rfl ?_
    refine g_aload_n d_Model_either_24 rfl ?_
    refine w_get (k := 14) (x := .int (s.1 14)) fl_Model_166 (by decide) rfl d_Model_either_25 ?_
    refine g_iconst (v := 1) d_Model_either_28 (by decide) ?_
    refine g_icmp_le (tgt := 46) d_Model_either_29 (by decide) (fun c_29 => ?_) (fun c_29 => ?_)
    rotate_left
    · exact absurd c_29 (fun q => q c_5)
    refine g_iconst (v := 0) d_Model_either_46 (by decide) ?_
    refine g_istore_n d_Model_either_47 (by decide) rfl ?_
    refine g_aload_n d_Model_either_48 rfl ?_
    refine g_aload_n d_Model_either_49 rfl ?_
    refine w_get (k := 14) (x := .int (s.1 14)) fl_Model_166 (by decide) rfl d_Model_either_50 ?_
    refine g_iconst (v := 2) d_Model_either_53 (by decide) ?_
    refine g_icmp_lt (tgt := 107) d_Model_either_54 (by decide) (fun c_54 => ?_) (fun c_54 => ?_)
    rotate_left
    · exact absurd c_54 (fun q => q (lt2_le1.mpr c_5))
    refine g_iconst (v := 1) d_Model_either_107 (by decide) ?_
    refine g_goto (tgt := 112) d_Model_either_108 (by decide) ?_
    refine c_Vr (as := [.int (1)]) kv_Model_refuses ml_Model_153 rfl mw_f (m_W_refuses1 (s := s) hmn) rfl (Nat.le_of_ble_eq_true rfl) rfl d_Model_either_112 rfl ?_
    refine g_if_eq (tgt := 120) d_Model_either_115 (by decide) (fun c_115 => absurd c_115 (by decide)) (fun c_115 => ?_)
    refine g_iconst (v := 0) d_Model_either_118 (by decide) ?_
    refine g_iret rfl d_Model_either_119 ?_
    have e : rEither s = (0, (wF s 0 (1))) := by first | (simp only [rEither, lt2_le1.mpr c_5, c_5, not_true_eq_false, not_false_eq_true, and_true, true_and, and_false, false_and, and_self, or_true, true_or, or_false, false_or, or_self, if_true, if_false, ite_true, ite_false]; done) | (simp [rEither, lt2_le1.mpr c_5, c_5]; done) | (simp_all [rEither, lt2_le1.mpr c_5]; done)
    rw [e]
    exact ⟨rfl, rfl⟩
  · refine g_aload_n d_Model_either_8 rfl ?_
    refine w_get (k := 12) fl_Model_37 (by decide) rfl d_Model_either_9 ?_
    refine g_aload_n d_Model_either_12 rfl ?_
    refine w_get (k := 14) (x := .int (s.1 14)) fl_Model_166 (by decide) rfl d_Model_either_13 ?_
    refine g_iconst (v := 1) d_Model_either_16 (by decide) ?_
    refine g_isub d_Model_either_17 ?_
    refine w_ald (j := 9) (q := tn (s.1 14) - 1) (x := s.2 9 (tn (s.1 14) - 1)) hmn (by decide) (by decide) (sub_hi (tn_hi h14) i1 (by have := (tn_g1 h14 c_5); omega)) (by show _ < 40; have := (tn_g1 h14 c_5); have := tn_ly h14 b14 (k := 40) (by decide); omega) rfl d_Model_either_18 ?_
    refine g_goto (tgt := 23) d_Model_either_19 (by decide) ?_
    refine g_istore_n d_Model_either_23 (by decide) rfl ?_
    refine g_aload_n d_Model_either_24 rfl ?_
    refine w_get (k := 14) (x := .int (s.1 14)) fl_Model_166 (by decide) rfl d_Model_either_25 ?_
    refine g_iconst (v := 1) d_Model_either_28 (by decide) ?_
    refine g_icmp_le (tgt := 46) d_Model_either_29 (by decide) (fun c_29 => ?_) (fun c_29 => ?_)
    · exact absurd c_29 c_5
    refine g_aload_n d_Model_either_32 rfl ?_
    refine w_get (k := 12) fl_Model_37 (by decide) rfl d_Model_either_33 ?_
    refine g_aload_n d_Model_either_36 rfl ?_
    refine w_get (k := 14) (x := .int (s.1 14)) fl_Model_166 (by decide) rfl d_Model_either_37 ?_
    refine g_iconst (v := 2) d_Model_either_40 (by decide) ?_
    refine g_isub d_Model_either_41 ?_
    refine w_ald (j := 9) (q := tn (s.1 14) - 2) (x := s.2 9 (tn (s.1 14) - 2)) hmn (by decide) (by decide) (sub_hi (tn_hi h14) i2 (by have := (tn_g1 h14 c_5); omega)) (by show _ < 40; have := (tn_g1 h14 c_5); have := tn_ly h14 b14 (k := 40) (by decide); omega) rfl d_Model_either_42 ?_
    refine g_goto (tgt := 47) d_Model_either_43 (by decide) ?_
    refine g_istore_n d_Model_either_47 (by decide) rfl ?_
    refine g_aload_n d_Model_either_48 rfl ?_
    refine g_aload_n d_Model_either_49 rfl ?_
    refine w_get (k := 14) (x := .int (s.1 14)) fl_Model_166 (by decide) rfl d_Model_either_50 ?_
    refine g_iconst (v := 2) d_Model_either_53 (by decide) ?_
    refine g_icmp_lt (tgt := 107) d_Model_either_54 (by decide) (fun c_54 => ?_) (fun c_54 => ?_)
    · exact absurd c_54 (fun q => c_5 (lt2_le1.mp q))
    have c_54 : ¬ s.1 14 < 2 := fun q => c_5 (lt2_le1.mp q)
    refine g_aload_n d_Model_either_57 rfl ?_
    refine w_get (k := 7) fl_Model_22 (by decide) rfl d_Model_either_58 ?_
    refine g_iload_n d_Model_either_61 rfl ?_
    refine w_ald (j := 4) (q := tn (rSnd s)) (x := s.2 4 (tn (rSnd s))) hmn (by decide) (by decide) (tn_hi (hp (tn (s.1 14) - 2) (by have := (tn_g1 h14 c_5); omega)).1) (hp (tn (s.1 14) - 2) (by have := (tn_g1 h14 c_5); omega)).2 rfl d_Model_either_62 ?_
    refine g_aload_n d_Model_either_63 rfl ?_
    refine w_get (k := 7) fl_Model_22 (by decide) rfl d_Model_either_64 ?_
    refine g_iload_n d_Model_either_67 rfl ?_
    refine w_ald (j := 4) (q := tn (rTop s)) (x := s.2 4 (tn (rTop s))) hmn (by decide) (by decide) (tn_hi (hp (tn (s.1 14) - 1) (by have := (tn_g1 h14 c_5); omega)).1) (hp (tn (s.1 14) - 1) (by have := (tn_g1 h14 c_5); omega)).2 rfl d_Model_either_68 ?_
    refine g_icmp_ne (tgt := 107) d_Model_either_69 (by decide) (fun c_69 => ?_) (fun c_69 => ?_)
    · refine g_iconst (v := 1) d_Model_either_107 (by decide) ?_
      refine g_goto (tgt := 112) d_Model_either_108 (by decide) ?_
      refine c_Vr (as := [.int (1)]) kv_Model_refuses ml_Model_153 rfl mw_f (m_W_refuses1 (s := s) hmn) rfl (Nat.le_of_ble_eq_true rfl) rfl d_Model_either_112 rfl ?_
      refine g_if_eq (tgt := 120) d_Model_either_115 (by decide) (fun c_115 => absurd c_115 (by decide)) (fun c_115 => ?_)
      refine g_iconst (v := 0) d_Model_either_118 (by decide) ?_
      refine g_iret rfl d_Model_either_119 ?_
      have e : rEither s = (0, (wF s 0 (1))) := by first | (simp only [rEither, c_54, c_5, c_69, not_true_eq_false, not_false_eq_true, and_true, true_and, and_false, false_and, and_self, or_true, true_or, or_false, false_or, or_self, if_true, if_false, ite_true, ite_false]; done) | (simp [rEither, c_54, c_5, c_69]; done) | (simp_all [rEither, c_54]; done)
      rw [e]
      exact ⟨rfl, rfl⟩
    · refine g_aload_n d_Model_either_72 rfl ?_
      refine w_get (k := 11) fl_Model_34 (by decide) rfl d_Model_either_73 ?_
      refine g_iload_n d_Model_either_76 rfl ?_
      refine w_ald (j := 8) (q := tn (rSnd s)) (x := s.2 8 (tn (rSnd s))) hmn (by decide) (by decide) (tn_hi (hp (tn (s.1 14) - 2) (by have := (tn_g1 h14 c_5); omega)).1) (hp (tn (s.1 14) - 2) (by have := (tn_g1 h14 c_5); omega)).2 rfl d_Model_either_77 ?_
      refine g_aload_n d_Model_either_78 rfl ?_
      refine w_get (k := 11) fl_Model_34 (by decide) rfl d_Model_either_79 ?_
      refine g_iload_n d_Model_either_82 rfl ?_
      refine w_ald (j := 8) (q := tn (rTop s)) (x := s.2 8 (tn (rTop s))) hmn (by decide) (by decide) (tn_hi (hp (tn (s.1 14) - 1) (by have := (tn_g1 h14 c_5); omega)).1) (hp (tn (s.1 14) - 1) (by have := (tn_g1 h14 c_5); omega)).2 rfl d_Model_either_83 ?_
      refine g_icmp_ne (tgt := 107) d_Model_either_84 (by decide) (fun c_84 => ?_) (fun c_84 => ?_)
      · refine g_iconst (v := 1) d_Model_either_107 (by decide) ?_
        refine g_goto (tgt := 112) d_Model_either_108 (by decide) ?_
        refine c_Vr (as := [.int (1)]) kv_Model_refuses ml_Model_153 rfl mw_f (m_W_refuses1 (s := s) hmn) rfl (Nat.le_of_ble_eq_true rfl) rfl d_Model_either_112 rfl ?_
        refine g_if_eq (tgt := 120) d_Model_either_115 (by decide) (fun c_115 => absurd c_115 (by decide)) (fun c_115 => ?_)
        refine g_iconst (v := 0) d_Model_either_118 (by decide) ?_
        refine g_iret rfl d_Model_either_119 ?_
        have e : rEither s = (0, (wF s 0 (1))) := by first | (simp only [rEither, c_54, c_5, c_69, c_84, not_true_eq_false, not_false_eq_true, and_true, true_and, and_false, false_and, and_self, or_true, true_or, or_false, false_or, or_self, if_true, if_false, ite_true, ite_false]; done) | (simp [rEither, c_54, c_5, c_69, c_84]; done) | (simp_all [rEither, c_54]; done)
        rw [e]
        exact ⟨rfl, rfl⟩
      · refine g_iconst (v := 1) d_Model_either_87 (by decide) ?_
        refine g_aload_n d_Model_either_88 rfl ?_
        refine w_get (k := 10) fl_Model_31 (by decide) rfl d_Model_either_89 ?_
        refine g_iload_n d_Model_either_92 rfl ?_
        refine w_ald (j := 7) (q := tn (rSnd s)) (x := s.2 7 (tn (rSnd s))) hmn (by decide) (by decide) (tn_hi (hp (tn (s.1 14) - 2) (by have := (tn_g1 h14 c_5); omega)).1) (hp (tn (s.1 14) - 2) (by have := (tn_g1 h14 c_5); omega)).2 rfl d_Model_either_93 ?_
        refine g_iadd d_Model_either_94 ?_
        refine g_aload_n d_Model_either_95 rfl ?_
        refine w_get (k := 10) fl_Model_31 (by decide) rfl d_Model_either_96 ?_
        refine g_iload_n d_Model_either_99 rfl ?_
        refine w_ald (j := 7) (q := tn (rTop s)) (x := s.2 7 (tn (rTop s))) hmn (by decide) (by decide) (tn_hi (hp (tn (s.1 14) - 1) (by have := (tn_g1 h14 c_5); omega)).1) (hp (tn (s.1 14) - 1) (by have := (tn_g1 h14 c_5); omega)).2 rfl d_Model_either_100 ?_
        refine g_iadd d_Model_either_101 ?_
        refine g_bipush (v := 24) d_Model_either_102 (by decide) ?_
        refine g_icmp_le (tgt := 111) d_Model_either_104 (by decide) (fun c_104 => ?_) (fun c_104 => ?_)
        · refine g_iconst (v := 0) d_Model_either_111 (by decide) ?_
          refine c_Vr (as := [.int (0)]) kv_Model_refuses ml_Model_153 rfl mw_f (m_W_refuses0 (s := s) hmn) rfl (Nat.le_of_ble_eq_true rfl) rfl d_Model_either_112 rfl ?_
          refine g_if_eq (tgt := 120) d_Model_either_115 (by decide) (fun c_115 => ?_) (fun c_115 => absurd c_115 (by decide))
          refine g_aload_n d_Model_either_120 rfl ?_
          refine g_iconst (v := 3) d_Model_either_121 (by decide) ?_
          refine g_aload_n d_Model_either_122 rfl ?_
          refine w_get (k := 7) fl_Model_22 (by decide) rfl d_Model_either_123 ?_
          refine g_iload_n d_Model_either_126 rfl ?_
          refine w_ald (j := 4) (q := tn (rSnd s)) (x := s.2 4 (tn (rSnd s))) hmn (by decide) (by decide) (tn_hi (hp (tn (s.1 14) - 2) (by have := (tn_g1 h14 c_5); omega)).1) (hp (tn (s.1 14) - 2) (by have := (tn_g1 h14 c_5); omega)).2 rfl d_Model_either_127 ?_
          refine g_iconst (v := 0) d_Model_either_128 (by decide) ?_
          refine g_iconst (v := 1) d_Model_either_129 (by decide) ?_
          refine g_aload_n d_Model_either_130 rfl ?_
          refine w_get (k := 10) fl_Model_31 (by decide) rfl d_Model_either_131 ?_
          refine g_iload_n d_Model_either_134 rfl ?_
          refine w_ald (j := 7) (q := tn (rSnd s)) (x := s.2 7 (tn (rSnd s))) hmn (by decide) (by decide) (tn_hi (hp (tn (s.1 14) - 2) (by have := (tn_g1 h14 c_5); omega)).1) (hp (tn (s.1 14) - 2) (by have := (tn_g1 h14 c_5); omega)).2 rfl d_Model_either_135 ?_
          refine g_iadd d_Model_either_136 ?_
          refine g_aload_n d_Model_either_137 rfl ?_
          refine w_get (k := 10) fl_Model_31 (by decide) rfl d_Model_either_138 ?_
          refine g_iload_n d_Model_either_141 rfl ?_
          refine w_ald (j := 7) (q := tn (rTop s)) (x := s.2 7 (tn (rTop s))) hmn (by decide) (by decide) (tn_hi (hp (tn (s.1 14) - 1) (by have := (tn_g1 h14 c_5); omega)).1) (hp (tn (s.1 14) - 1) (by have := (tn_g1 h14 c_5); omega)).2 rfl d_Model_either_142 ?_
          refine g_iadd d_Model_either_143 ?_
          refine g_aload_n d_Model_either_144 rfl ?_
          refine w_get (k := 11) fl_Model_34 (by decide) rfl d_Model_either_145 ?_
          refine g_iload_n d_Model_either_148 rfl ?_
          refine w_ald (j := 8) (q := tn (rSnd s)) (x := s.2 8 (tn (rSnd s))) hmn (by decide) (by decide) (tn_hi (hp (tn (s.1 14) - 2) (by have := (tn_g1 h14 c_5); omega)).1) (hp (tn (s.1 14) - 2) (by have := (tn_g1 h14 c_5); omega)).2 rfl d_Model_either_149 ?_
          refine c_Vr (as := [.int (3), .int (s.2 4 (tn (rSnd s))), .int (0), .int (((1) + (s.2 7 (tn (rSnd s)))) + (s.2 7 (tn (rTop s)))), .int (s.2 8 (tn (rSnd s)))]) kv_Model_node ml_Model_169 rfl mw_f (m_W_node (s := (wF s 0 (0))) hmn h5 b5 (3) (s.2 4 (tn (rSnd s))) (0) (((1) + (s.2 7 (tn (rSnd s)))) + (s.2 7 (tn (rTop s)))) (s.2 8 (tn (rSnd s)))) rfl (Nat.le_of_ble_eq_true rfl) rfl d_Model_either_150 rfl ?_
          have hN : (s.1 5 + 1 - 1).toInt = ((tn (s.1 5) : Nat) : Int) := (sub_hi (add_hi (tn_hi h5) i1 (by omega)) i1 (by omega))
          refine g_istore_n d_Model_either_153 (by decide) rfl ?_
          refine g_aload_n d_Model_either_154 rfl ?_
          refine w_get (k := 9) fl_Model_28 (by decide) rfl d_Model_either_155 ?_
          refine g_iconst (v := 4) d_Model_either_158 (by decide) ?_
          refine g_iload_n d_Model_either_159 rfl ?_
          refine g_imul d_Model_either_160 ?_
          refine g_iload_n d_Model_either_161 rfl ?_
          refine w_ast (j := 6) (q := 4 * tn (s.1 5)) hmn (by decide) (by decide) (mul_hi i4 hN (by omega)) (by show _ < 2800; omega) d_Model_either_162 ?_
          refine g_aload_n d_Model_either_163 rfl ?_
          refine w_get (k := 9) fl_Model_28 (by decide) rfl d_Model_either_164 ?_
          refine g_iconst (v := 4) d_Model_either_167 (by decide) ?_
          refine g_iload_n d_Model_either_168 rfl ?_
          refine g_imul d_Model_either_169 ?_
          refine g_iconst (v := 1) d_Model_either_170 (by decide) ?_
          refine g_iadd d_Model_either_171 ?_
          refine g_iload_n d_Model_either_172 rfl ?_
          refine w_ast (j := 6) (q := 4 * tn (s.1 5) + 1) hmn (by decide) (by decide) (add_hi (mul_hi i4 hN (by omega)) i1 (by omega)) (by show _ < 2800; omega) d_Model_either_173 ?_
          refine g_aload_n d_Model_either_174 rfl ?_
          refine g_dup d_Model_either_175 rfl ?_
          refine w_get (k := 14) (x := .int (s.1 14)) fl_Model_166 (by decide) rfl d_Model_either_176 ?_
          refine g_iconst (v := 2) d_Model_either_179 (by decide) ?_
          refine g_isub d_Model_either_180 ?_
          refine w_put (k := 14) fl_Model_166 (by decide) rfl rfl rfl rfl (Nat.le_of_ble_eq_true rfl) d_Model_either_181 ?_
          refine g_aload_n d_Model_either_184 rfl ?_
          refine g_iload_n d_Model_either_185 rfl ?_
          refine g_iconst (v := 0) d_Model_either_186 (by decide) ?_
          refine c_Vr (as := [.int (s.1 5 + 1 - 1), .int (0)]) kv_Model_push ml_Model_173 rfl mw_f (m_W_push (s := rEitherS s) (v := 0) hmn (show ¬ s.1 14 - 2 < 0 from nlt_hi (sub_hi (tn_hi h14) i2 (by have := (tn_g1 h14 c_5); omega))) (show tn (s.1 14 - 2) < 40 by rw [tn_eqk (sub_hi (tn_hi h14) i2 (by have := (tn_g1 h14 c_5); omega))]; have := tn_ly h14 b14 (k := 40) (by decide); omega) (s.1 5 + 1 - 1)) rfl (Nat.le_of_ble_eq_true rfl) rfl d_Model_either_187 rfl ?_
          refine g_iret rfl d_Model_either_190 ?_
          have e : rEither s = (rHt (rEitherS s) 0 + 1, (rPush (rEitherS s) (s.1 5 + 1 - 1) 0)) := by first | (simp only [rEither, c_54, c_5, c_69, c_84, c_104, not_true_eq_false, not_false_eq_true, and_true, true_and, and_false, false_and, and_self, or_true, true_or, or_false, false_or, or_self, if_true, if_false, ite_true, ite_false]; done) | (simp [rEither, c_54, c_5, c_69, c_84, c_104]; done) | (simp_all [rEither, c_54]; done)
          rw [e]
          exact ⟨rfl, rfl⟩
        · refine g_iconst (v := 1) d_Model_either_107 (by decide) ?_
          refine g_goto (tgt := 112) d_Model_either_108 (by decide) ?_
          refine c_Vr (as := [.int (1)]) kv_Model_refuses ml_Model_153 rfl mw_f (m_W_refuses1 (s := s) hmn) rfl (Nat.le_of_ble_eq_true rfl) rfl d_Model_either_112 rfl ?_
          refine g_if_eq (tgt := 120) d_Model_either_115 (by decide) (fun c_115 => absurd c_115 (by decide)) (fun c_115 => ?_)
          refine g_iconst (v := 0) d_Model_either_118 (by decide) ?_
          refine g_iret rfl d_Model_either_119 ?_
          have e : rEither s = (0, (wF s 0 (1))) := by first | (simp only [rEither, c_54, c_5, c_69, c_84, c_104, not_true_eq_false, not_false_eq_true, and_true, true_and, and_false, false_and, and_self, or_true, true_or, or_false, false_or, or_self, if_true, if_false, ite_true, ite_false]; done) | (simp [rEither, c_54, c_5, c_69, c_84, c_104]; done) | (simp_all [rEither, c_54]; done)
          rw [e]
          exact ⟨rfl, rfl⟩
end MD2

/-! The reference: small methods -/
theorem d_Model_isType_0 : decode Y_Model_isType.2.1 0 = .ok (.iload_n 1, 1) := by decide +kernel
theorem d_Model_isType_1 : decode Y_Model_isType.2.1 1 = .ok (.ifCond .lt 22, 3) := by decide +kernel
theorem d_Model_isType_4 : decode Y_Model_isType.2.1 4 = .ok (.iload_n 1, 1) := by decide +kernel
theorem d_Model_isType_5 : decode Y_Model_isType.2.1 5 = .ok (.bipush 16, 2) := by decide +kernel
theorem d_Model_isType_7 : decode Y_Model_isType.2.1 7 = .ok (.if_icmp .ge 16, 3) := by decide +kernel
theorem d_Model_isType_10 : decode Y_Model_isType.2.1 10 = .ok (.aload_n 0, 1) := by decide +kernel
theorem d_Model_isType_11 : decode Y_Model_isType.2.1 11 = .ok (.getfield 7, 3) := by decide +kernel
theorem d_Model_isType_14 : decode Y_Model_isType.2.1 14 = .ok (.iload_n 1, 1) := by decide +kernel
theorem d_Model_isType_15 : decode Y_Model_isType.2.1 15 = .ok (.iaload, 1) := by decide +kernel
theorem d_Model_isType_16 : decode Y_Model_isType.2.1 16 = .ok (.ifCond .le 7, 3) := by decide +kernel
theorem d_Model_isType_19 : decode Y_Model_isType.2.1 19 = .ok (.iconst 1, 1) := by decide +kernel
theorem d_Model_isType_20 : decode Y_Model_isType.2.1 20 = .ok (.goto 4, 3) := by decide +kernel
theorem d_Model_isType_23 : decode Y_Model_isType.2.1 23 = .ok (.iconst 0, 1) := by decide +kernel
theorem d_Model_isType_24 : decode Y_Model_isType.2.1 24 = .ok (.ireturn, 1) := by decide +kernel
theorem d_Model_isMaker_0 : decode Y_Model_isMaker.2.1 0 = .ok (.aload_n 0, 1) := by decide +kernel
theorem d_Model_isMaker_1 : decode Y_Model_isMaker.2.1 1 = .ok (.iload_n 1, 1) := by decide +kernel
theorem d_Model_isMaker_2 : decode Y_Model_isMaker.2.1 2 = .ok (.invokevirtual 145, 3) := by decide +kernel
theorem d_Model_isMaker_5 : decode Y_Model_isMaker.2.1 5 = .ok (.ifCond .eq 23, 3) := by decide +kernel
theorem d_Model_isMaker_8 : decode Y_Model_isMaker.2.1 8 = .ok (.iload_n 2, 1) := by decide +kernel
theorem d_Model_isMaker_9 : decode Y_Model_isMaker.2.1 9 = .ok (.ifCond .lt 19, 3) := by decide +kernel
theorem d_Model_isMaker_12 : decode Y_Model_isMaker.2.1 12 = .ok (.iload_n 2, 1) := by decide +kernel
theorem d_Model_isMaker_13 : decode Y_Model_isMaker.2.1 13 = .ok (.aload_n 0, 1) := by decide +kernel
theorem d_Model_isMaker_14 : decode Y_Model_isMaker.2.1 14 = .ok (.getfield 7, 3) := by decide +kernel
theorem d_Model_isMaker_17 : decode Y_Model_isMaker.2.1 17 = .ok (.iload_n 1, 1) := by decide +kernel
theorem d_Model_isMaker_18 : decode Y_Model_isMaker.2.1 18 = .ok (.iaload, 1) := by decide +kernel
theorem d_Model_isMaker_19 : decode Y_Model_isMaker.2.1 19 = .ok (.iconst 1, 1) := by decide +kernel
theorem d_Model_isMaker_20 : decode Y_Model_isMaker.2.1 20 = .ok (.isub, 1) := by decide +kernel
theorem d_Model_isMaker_21 : decode Y_Model_isMaker.2.1 21 = .ok (.if_icmp .ge 7, 3) := by decide +kernel
theorem d_Model_isMaker_24 : decode Y_Model_isMaker.2.1 24 = .ok (.iconst 1, 1) := by decide +kernel
theorem d_Model_isMaker_25 : decode Y_Model_isMaker.2.1 25 = .ok (.goto 4, 3) := by decide +kernel
theorem d_Model_isMaker_28 : decode Y_Model_isMaker.2.1 28 = .ok (.iconst 0, 1) := by decide +kernel
theorem d_Model_isMaker_29 : decode Y_Model_isMaker.2.1 29 = .ok (.ireturn, 1) := by decide +kernel
theorem d_Model_node_0 : decode Y_Model_node.2.1 0 = .ok (.aload_n 0, 1) := by decide +kernel
theorem d_Model_node_1 : decode Y_Model_node.2.1 1 = .ok (.getfield 19, 3) := by decide +kernel
theorem d_Model_node_4 : decode Y_Model_node.2.1 4 = .ok (.aload_n 0, 1) := by decide +kernel
theorem d_Model_node_5 : decode Y_Model_node.2.1 5 = .ok (.getfield 160, 3) := by decide +kernel
theorem d_Model_node_8 : decode Y_Model_node.2.1 8 = .ok (.iload_n 1, 1) := by decide +kernel
theorem d_Model_node_9 : decode Y_Model_node.2.1 9 = .ok (.iastore, 1) := by decide +kernel
theorem d_Model_node_10 : decode Y_Model_node.2.1 10 = .ok (.aload_n 0, 1) := by decide +kernel
theorem d_Model_node_11 : decode Y_Model_node.2.1 11 = .ok (.getfield 22, 3) := by decide +kernel
theorem d_Model_node_14 : decode Y_Model_node.2.1 14 = .ok (.aload_n 0, 1) := by decide +kernel
theorem d_Model_node_15 : decode Y_Model_node.2.1 15 = .ok (.getfield 160, 3) := by decide +kernel
theorem d_Model_node_18 : decode Y_Model_node.2.1 18 = .ok (.iload_n 2, 1) := by decide +kernel
theorem d_Model_node_19 : decode Y_Model_node.2.1 19 = .ok (.iastore, 1) := by decide +kernel
theorem d_Model_node_20 : decode Y_Model_node.2.1 20 = .ok (.aload_n 0, 1) := by decide +kernel
theorem d_Model_node_21 : decode Y_Model_node.2.1 21 = .ok (.getfield 25, 3) := by decide +kernel
theorem d_Model_node_24 : decode Y_Model_node.2.1 24 = .ok (.aload_n 0, 1) := by decide +kernel
theorem d_Model_node_25 : decode Y_Model_node.2.1 25 = .ok (.getfield 160, 3) := by decide +kernel
theorem d_Model_node_28 : decode Y_Model_node.2.1 28 = .ok (.iload_n 3, 1) := by decide +kernel
theorem d_Model_node_29 : decode Y_Model_node.2.1 29 = .ok (.iastore, 1) := by decide +kernel
theorem d_Model_node_30 : decode Y_Model_node.2.1 30 = .ok (.aload_n 0, 1) := by decide +kernel
theorem d_Model_node_31 : decode Y_Model_node.2.1 31 = .ok (.getfield 31, 3) := by decide +kernel
theorem d_Model_node_34 : decode Y_Model_node.2.1 34 = .ok (.aload_n 0, 1) := by decide +kernel
theorem d_Model_node_35 : decode Y_Model_node.2.1 35 = .ok (.getfield 160, 3) := by decide +kernel
theorem d_Model_node_38 : decode Y_Model_node.2.1 38 = .ok (.iload 4, 2) := by decide +kernel
theorem d_Model_node_40 : decode Y_Model_node.2.1 40 = .ok (.iastore, 1) := by decide +kernel
theorem d_Model_node_41 : decode Y_Model_node.2.1 41 = .ok (.aload_n 0, 1) := by decide +kernel
theorem d_Model_node_42 : decode Y_Model_node.2.1 42 = .ok (.getfield 34, 3) := by decide +kernel
theorem d_Model_node_45 : decode Y_Model_node.2.1 45 = .ok (.aload_n 0, 1) := by decide +kernel
theorem d_Model_node_46 : decode Y_Model_node.2.1 46 = .ok (.getfield 160, 3) := by decide +kernel
theorem d_Model_node_49 : decode Y_Model_node.2.1 49 = .ok (.iload 5, 2) := by decide +kernel
theorem d_Model_node_51 : decode Y_Model_node.2.1 51 = .ok (.iastore, 1) := by decide +kernel
theorem d_Model_node_52 : decode Y_Model_node.2.1 52 = .ok (.aload_n 0, 1) := by decide +kernel
theorem d_Model_node_53 : decode Y_Model_node.2.1 53 = .ok (.dup, 1) := by decide +kernel
theorem d_Model_node_54 : decode Y_Model_node.2.1 54 = .ok (.getfield 160, 3) := by decide +kernel
theorem d_Model_node_57 : decode Y_Model_node.2.1 57 = .ok (.iconst 1, 1) := by decide +kernel
theorem d_Model_node_58 : decode Y_Model_node.2.1 58 = .ok (.iadd, 1) := by decide +kernel
theorem d_Model_node_59 : decode Y_Model_node.2.1 59 = .ok (.putfield 160, 3) := by decide +kernel
theorem d_Model_node_62 : decode Y_Model_node.2.1 62 = .ok (.aload_n 0, 1) := by decide +kernel
theorem d_Model_node_63 : decode Y_Model_node.2.1 63 = .ok (.getfield 160, 3) := by decide +kernel
theorem d_Model_node_66 : decode Y_Model_node.2.1 66 = .ok (.iconst 1, 1) := by decide +kernel
theorem d_Model_node_67 : decode Y_Model_node.2.1 67 = .ok (.isub, 1) := by decide +kernel
theorem d_Model_node_68 : decode Y_Model_node.2.1 68 = .ok (.ireturn, 1) := by decide +kernel
theorem d_Model_push_0 : decode Y_Model_push.2.1 0 = .ok (.aload_n 0, 1) := by decide +kernel
theorem d_Model_push_1 : decode Y_Model_push.2.1 1 = .ok (.iconst 1, 1) := by decide +kernel
theorem d_Model_push_2 : decode Y_Model_push.2.1 2 = .ok (.putfield 149, 3) := by decide +kernel
theorem d_Model_push_5 : decode Y_Model_push.2.1 5 = .ok (.iload_n 2, 1) := by decide +kernel
theorem d_Model_push_6 : decode Y_Model_push.2.1 6 = .ok (.ifCond .eq 28, 3) := by decide +kernel
theorem d_Model_push_9 : decode Y_Model_push.2.1 9 = .ok (.aload_n 0, 1) := by decide +kernel
theorem d_Model_push_10 : decode Y_Model_push.2.1 10 = .ok (.getfield 40, 3) := by decide +kernel
theorem d_Model_push_13 : decode Y_Model_push.2.1 13 = .ok (.aload_n 0, 1) := by decide +kernel
theorem d_Model_push_14 : decode Y_Model_push.2.1 14 = .ok (.getfield 163, 3) := by decide +kernel
theorem d_Model_push_17 : decode Y_Model_push.2.1 17 = .ok (.iload_n 1, 1) := by decide +kernel
theorem d_Model_push_18 : decode Y_Model_push.2.1 18 = .ok (.iastore, 1) := by decide +kernel
theorem d_Model_push_19 : decode Y_Model_push.2.1 19 = .ok (.aload_n 0, 1) := by decide +kernel
theorem d_Model_push_20 : decode Y_Model_push.2.1 20 = .ok (.dup, 1) := by decide +kernel
theorem d_Model_push_21 : decode Y_Model_push.2.1 21 = .ok (.getfield 163, 3) := by decide +kernel
theorem d_Model_push_24 : decode Y_Model_push.2.1 24 = .ok (.iconst 1, 1) := by decide +kernel
theorem d_Model_push_25 : decode Y_Model_push.2.1 25 = .ok (.iadd, 1) := by decide +kernel
theorem d_Model_push_26 : decode Y_Model_push.2.1 26 = .ok (.putfield 163, 3) := by decide +kernel
theorem d_Model_push_29 : decode Y_Model_push.2.1 29 = .ok (.aload_n 0, 1) := by decide +kernel
theorem d_Model_push_30 : decode Y_Model_push.2.1 30 = .ok (.getfield 163, 3) := by decide +kernel
theorem d_Model_push_33 : decode Y_Model_push.2.1 33 = .ok (.ireturn, 1) := by decide +kernel
theorem d_Model_push_34 : decode Y_Model_push.2.1 34 = .ok (.aload_n 0, 1) := by decide +kernel
theorem d_Model_push_35 : decode Y_Model_push.2.1 35 = .ok (.getfield 37, 3) := by decide +kernel
theorem d_Model_push_38 : decode Y_Model_push.2.1 38 = .ok (.aload_n 0, 1) := by decide +kernel
theorem d_Model_push_39 : decode Y_Model_push.2.1 39 = .ok (.getfield 166, 3) := by decide +kernel
theorem d_Model_push_42 : decode Y_Model_push.2.1 42 = .ok (.iload_n 1, 1) := by decide +kernel
theorem d_Model_push_43 : decode Y_Model_push.2.1 43 = .ok (.iastore, 1) := by decide +kernel
theorem d_Model_push_44 : decode Y_Model_push.2.1 44 = .ok (.aload_n 0, 1) := by decide +kernel
theorem d_Model_push_45 : decode Y_Model_push.2.1 45 = .ok (.dup, 1) := by decide +kernel
theorem d_Model_push_46 : decode Y_Model_push.2.1 46 = .ok (.getfield 166, 3) := by decide +kernel
theorem d_Model_push_49 : decode Y_Model_push.2.1 49 = .ok (.iconst 1, 1) := by decide +kernel
theorem d_Model_push_50 : decode Y_Model_push.2.1 50 = .ok (.iadd, 1) := by decide +kernel
theorem d_Model_push_51 : decode Y_Model_push.2.1 51 = .ok (.putfield 166, 3) := by decide +kernel
theorem d_Model_push_54 : decode Y_Model_push.2.1 54 = .ok (.aload_n 0, 1) := by decide +kernel
theorem d_Model_push_55 : decode Y_Model_push.2.1 55 = .ok (.getfield 166, 3) := by decide +kernel
theorem d_Model_push_58 : decode Y_Model_push.2.1 58 = .ok (.ireturn, 1) := by decide +kernel
theorem d_Model_height_0 : decode Y_Model_height.2.1 0 = .ok (.iload_n 1, 1) := by decide +kernel
theorem d_Model_height_1 : decode Y_Model_height.2.1 1 = .ok (.ifCond .eq 10, 3) := by decide +kernel
theorem d_Model_height_4 : decode Y_Model_height.2.1 4 = .ok (.aload_n 0, 1) := by decide +kernel
theorem d_Model_height_5 : decode Y_Model_height.2.1 5 = .ok (.getfield 163, 3) := by decide +kernel
theorem d_Model_height_8 : decode Y_Model_height.2.1 8 = .ok (.goto 7, 3) := by decide +kernel
theorem d_Model_height_11 : decode Y_Model_height.2.1 11 = .ok (.aload_n 0, 1) := by decide +kernel
theorem d_Model_height_12 : decode Y_Model_height.2.1 12 = .ok (.getfield 166, 3) := by decide +kernel
theorem d_Model_height_15 : decode Y_Model_height.2.1 15 = .ok (.ireturn, 1) := by decide +kernel
theorem d_Model_any_0 : decode Y_Model_any.2.1 0 = .ok (.aload_n 0, 1) := by decide +kernel
theorem d_Model_any_1 : decode Y_Model_any.2.1 1 = .ok (.aload_n 0, 1) := by decide +kernel
theorem d_Model_any_2 : decode Y_Model_any.2.1 2 = .ok (.iload_n 1, 1) := by decide +kernel
theorem d_Model_any_3 : decode Y_Model_any.2.1 3 = .ok (.invokevirtual 145, 3) := by decide +kernel
theorem d_Model_any_6 : decode Y_Model_any.2.1 6 = .ok (.ifCond .ne 7, 3) := by decide +kernel
theorem d_Model_any_9 : decode Y_Model_any.2.1 9 = .ok (.iconst 1, 1) := by decide +kernel
theorem d_Model_any_10 : decode Y_Model_any.2.1 10 = .ok (.goto 17, 3) := by decide +kernel
theorem d_Model_any_13 : decode Y_Model_any.2.1 13 = .ok (.aload_n 0, 1) := by decide +kernel
theorem d_Model_any_14 : decode Y_Model_any.2.1 14 = .ok (.getfield 166, 3) := by decide +kernel
theorem d_Model_any_17 : decode Y_Model_any.2.1 17 = .ok (.bipush 40, 2) := by decide +kernel
theorem d_Model_any_19 : decode Y_Model_any.2.1 19 = .ok (.if_icmp .ne 7, 3) := by decide +kernel
theorem d_Model_any_22 : decode Y_Model_any.2.1 22 = .ok (.iconst 2, 1) := by decide +kernel
theorem d_Model_any_23 : decode Y_Model_any.2.1 23 = .ok (.goto 4, 3) := by decide +kernel
theorem d_Model_any_26 : decode Y_Model_any.2.1 26 = .ok (.iconst 0, 1) := by decide +kernel
theorem d_Model_any_27 : decode Y_Model_any.2.1 27 = .ok (.invokevirtual 153, 3) := by decide +kernel
theorem d_Model_any_30 : decode Y_Model_any.2.1 30 = .ok (.ifCond .eq 5, 3) := by decide +kernel
theorem d_Model_any_33 : decode Y_Model_any.2.1 33 = .ok (.iconst 0, 1) := by decide +kernel
theorem d_Model_any_34 : decode Y_Model_any.2.1 34 = .ok (.ireturn, 1) := by decide +kernel
theorem d_Model_any_35 : decode Y_Model_any.2.1 35 = .ok (.aload_n 0, 1) := by decide +kernel
theorem d_Model_any_36 : decode Y_Model_any.2.1 36 = .ok (.aload_n 0, 1) := by decide +kernel
theorem d_Model_any_37 : decode Y_Model_any.2.1 37 = .ok (.iconst 0, 1) := by decide +kernel
theorem d_Model_any_38 : decode Y_Model_any.2.1 38 = .ok (.iload_n 1, 1) := by decide +kernel
theorem d_Model_any_39 : decode Y_Model_any.2.1 39 = .ok (.iconst 0, 1) := by decide +kernel
theorem d_Model_any_40 : decode Y_Model_any.2.1 40 = .ok (.iconst 1, 1) := by decide +kernel
theorem d_Model_any_41 : decode Y_Model_any.2.1 41 = .ok (.iconst 0, 1) := by decide +kernel
theorem d_Model_any_42 : decode Y_Model_any.2.1 42 = .ok (.invokevirtual 169, 3) := by decide +kernel
theorem d_Model_any_45 : decode Y_Model_any.2.1 45 = .ok (.iconst 0, 1) := by decide +kernel
theorem d_Model_any_46 : decode Y_Model_any.2.1 46 = .ok (.invokevirtual 173, 3) := by decide +kernel
theorem d_Model_any_49 : decode Y_Model_any.2.1 49 = .ok (.ireturn, 1) := by decide +kernel
theorem d_Model_number_0 : decode Y_Model_number.2.1 0 = .ok (.aload_n 0, 1) := by decide +kernel
theorem d_Model_number_1 : decode Y_Model_number.2.1 1 = .ok (.aload_n 0, 1) := by decide +kernel
theorem d_Model_number_2 : decode Y_Model_number.2.1 2 = .ok (.iload_n 1, 1) := by decide +kernel
theorem d_Model_number_3 : decode Y_Model_number.2.1 3 = .ok (.invokevirtual 145, 3) := by decide +kernel
theorem d_Model_number_6 : decode Y_Model_number.2.1 6 = .ok (.ifCond .eq 13, 3) := by decide +kernel
theorem d_Model_number_9 : decode Y_Model_number.2.1 9 = .ok (.aload_n 0, 1) := by decide +kernel
theorem d_Model_number_10 : decode Y_Model_number.2.1 10 = .ok (.getfield 7, 3) := by decide +kernel
theorem d_Model_number_13 : decode Y_Model_number.2.1 13 = .ok (.iload_n 1, 1) := by decide +kernel
theorem d_Model_number_14 : decode Y_Model_number.2.1 14 = .ok (.iaload, 1) := by decide +kernel
theorem d_Model_number_15 : decode Y_Model_number.2.1 15 = .ok (.iconst 1, 1) := by decide +kernel
theorem d_Model_number_16 : decode Y_Model_number.2.1 16 = .ok (.if_icmp .eq 7, 3) := by decide +kernel
theorem d_Model_number_19 : decode Y_Model_number.2.1 19 = .ok (.iconst 1, 1) := by decide +kernel
theorem d_Model_number_20 : decode Y_Model_number.2.1 20 = .ok (.goto 18, 3) := by decide +kernel
theorem d_Model_number_23 : decode Y_Model_number.2.1 23 = .ok (.aload_n 0, 1) := by decide +kernel
theorem d_Model_number_24 : decode Y_Model_number.2.1 24 = .ok (.iload_n 3, 1) := by decide +kernel
theorem d_Model_number_25 : decode Y_Model_number.2.1 25 = .ok (.invokevirtual 177, 3) := by decide +kernel
theorem d_Model_number_28 : decode Y_Model_number.2.1 28 = .ok (.bipush 40, 2) := by decide +kernel
theorem d_Model_number_30 : decode Y_Model_number.2.1 30 = .ok (.if_icmp .ne 7, 3) := by decide +kernel
theorem d_Model_number_33 : decode Y_Model_number.2.1 33 = .ok (.iconst 2, 1) := by decide +kernel
theorem d_Model_number_34 : decode Y_Model_number.2.1 34 = .ok (.goto 4, 3) := by decide +kernel
theorem d_Model_number_37 : decode Y_Model_number.2.1 37 = .ok (.iconst 0, 1) := by decide +kernel
theorem d_Model_number_38 : decode Y_Model_number.2.1 38 = .ok (.invokevirtual 153, 3) := by decide +kernel
theorem d_Model_number_41 : decode Y_Model_number.2.1 41 = .ok (.ifCond .eq 5, 3) := by decide +kernel
theorem d_Model_number_44 : decode Y_Model_number.2.1 44 = .ok (.iconst 0, 1) := by decide +kernel
theorem d_Model_number_45 : decode Y_Model_number.2.1 45 = .ok (.ireturn, 1) := by decide +kernel
theorem d_Model_number_46 : decode Y_Model_number.2.1 46 = .ok (.aload_n 0, 1) := by decide +kernel
theorem d_Model_number_47 : decode Y_Model_number.2.1 47 = .ok (.aload_n 0, 1) := by decide +kernel
theorem d_Model_number_48 : decode Y_Model_number.2.1 48 = .ok (.iconst 1, 1) := by decide +kernel
theorem d_Model_number_49 : decode Y_Model_number.2.1 49 = .ok (.iload_n 1, 1) := by decide +kernel
theorem d_Model_number_50 : decode Y_Model_number.2.1 50 = .ok (.iload_n 2, 1) := by decide +kernel
theorem d_Model_number_51 : decode Y_Model_number.2.1 51 = .ok (.iconst 1, 1) := by decide +kernel
theorem d_Model_number_52 : decode Y_Model_number.2.1 52 = .ok (.iconst 0, 1) := by decide +kernel
theorem d_Model_number_53 : decode Y_Model_number.2.1 53 = .ok (.invokevirtual 169, 3) := by decide +kernel
theorem d_Model_number_56 : decode Y_Model_number.2.1 56 = .ok (.iload_n 3, 1) := by decide +kernel
theorem d_Model_number_57 : decode Y_Model_number.2.1 57 = .ok (.invokevirtual 173, 3) := by decide +kernel
theorem d_Model_number_60 : decode Y_Model_number.2.1 60 = .ok (.ireturn, 1) := by decide +kernel
theorem d_Model_pop_0 : decode Y_Model_pop.2.1 0 = .ok (.aload_n 0, 1) := by decide +kernel
theorem d_Model_pop_1 : decode Y_Model_pop.2.1 1 = .ok (.iconst 0, 1) := by decide +kernel
theorem d_Model_pop_2 : decode Y_Model_pop.2.1 2 = .ok (.putfield 138, 3) := by decide +kernel
theorem d_Model_pop_5 : decode Y_Model_pop.2.1 5 = .ok (.aload_n 0, 1) := by decide +kernel
theorem d_Model_pop_6 : decode Y_Model_pop.2.1 6 = .ok (.iload_n 1, 1) := by decide +kernel
theorem d_Model_pop_7 : decode Y_Model_pop.2.1 7 = .ok (.invokevirtual 177, 3) := by decide +kernel
theorem d_Model_pop_10 : decode Y_Model_pop.2.1 10 = .ok (.ifCond .ne 5, 3) := by decide +kernel
theorem d_Model_pop_13 : decode Y_Model_pop.2.1 13 = .ok (.iconst 0, 1) := by decide +kernel
theorem d_Model_pop_14 : decode Y_Model_pop.2.1 14 = .ok (.ireturn, 1) := by decide +kernel
theorem d_Model_pop_15 : decode Y_Model_pop.2.1 15 = .ok (.iload_n 1, 1) := by decide +kernel
theorem d_Model_pop_16 : decode Y_Model_pop.2.1 16 = .ok (.ifCond .eq 28, 3) := by decide +kernel
theorem d_Model_pop_19 : decode Y_Model_pop.2.1 19 = .ok (.aload_n 0, 1) := by decide +kernel
theorem d_Model_pop_20 : decode Y_Model_pop.2.1 20 = .ok (.dup, 1) := by decide +kernel
theorem d_Model_pop_21 : decode Y_Model_pop.2.1 21 = .ok (.getfield 163, 3) := by decide +kernel
theorem d_Model_pop_24 : decode Y_Model_pop.2.1 24 = .ok (.iconst 1, 1) := by decide +kernel
theorem d_Model_pop_25 : decode Y_Model_pop.2.1 25 = .ok (.isub, 1) := by decide +kernel
theorem d_Model_pop_26 : decode Y_Model_pop.2.1 26 = .ok (.putfield 163, 3) := by decide +kernel
theorem d_Model_pop_29 : decode Y_Model_pop.2.1 29 = .ok (.aload_n 0, 1) := by decide +kernel
theorem d_Model_pop_30 : decode Y_Model_pop.2.1 30 = .ok (.getfield 31, 3) := by decide +kernel
theorem d_Model_pop_33 : decode Y_Model_pop.2.1 33 = .ok (.aload_n 0, 1) := by decide +kernel
theorem d_Model_pop_34 : decode Y_Model_pop.2.1 34 = .ok (.getfield 40, 3) := by decide +kernel
theorem d_Model_pop_37 : decode Y_Model_pop.2.1 37 = .ok (.aload_n 0, 1) := by decide +kernel
theorem d_Model_pop_38 : decode Y_Model_pop.2.1 38 = .ok (.getfield 163, 3) := by decide +kernel
theorem d_Model_pop_41 : decode Y_Model_pop.2.1 41 = .ok (.iaload, 1) := by decide +kernel
theorem d_Model_pop_42 : decode Y_Model_pop.2.1 42 = .ok (.iaload, 1) := by decide +kernel
theorem d_Model_pop_43 : decode Y_Model_pop.2.1 43 = .ok (.ireturn, 1) := by decide +kernel
theorem d_Model_pop_44 : decode Y_Model_pop.2.1 44 = .ok (.aload_n 0, 1) := by decide +kernel
theorem d_Model_pop_45 : decode Y_Model_pop.2.1 45 = .ok (.dup, 1) := by decide +kernel
theorem d_Model_pop_46 : decode Y_Model_pop.2.1 46 = .ok (.getfield 166, 3) := by decide +kernel
theorem d_Model_pop_49 : decode Y_Model_pop.2.1 49 = .ok (.iconst 1, 1) := by decide +kernel
theorem d_Model_pop_50 : decode Y_Model_pop.2.1 50 = .ok (.isub, 1) := by decide +kernel
theorem d_Model_pop_51 : decode Y_Model_pop.2.1 51 = .ok (.putfield 166, 3) := by decide +kernel
theorem d_Model_pop_54 : decode Y_Model_pop.2.1 54 = .ok (.aload_n 0, 1) := by decide +kernel
theorem d_Model_pop_55 : decode Y_Model_pop.2.1 55 = .ok (.getfield 31, 3) := by decide +kernel
theorem d_Model_pop_58 : decode Y_Model_pop.2.1 58 = .ok (.aload_n 0, 1) := by decide +kernel
theorem d_Model_pop_59 : decode Y_Model_pop.2.1 59 = .ok (.getfield 37, 3) := by decide +kernel
theorem d_Model_pop_62 : decode Y_Model_pop.2.1 62 = .ok (.aload_n 0, 1) := by decide +kernel
theorem d_Model_pop_63 : decode Y_Model_pop.2.1 63 = .ok (.getfield 166, 3) := by decide +kernel
theorem d_Model_pop_66 : decode Y_Model_pop.2.1 66 = .ok (.iaload, 1) := by decide +kernel
theorem d_Model_pop_67 : decode Y_Model_pop.2.1 67 = .ok (.iaload, 1) := by decide +kernel
theorem d_Model_pop_68 : decode Y_Model_pop.2.1 68 = .ok (.ireturn, 1) := by decide +kernel
theorem d_Model_asked_0 : decode Y_Model_asked.2.1 0 = .ok (.aload_n 0, 1) := by decide +kernel
theorem d_Model_asked_1 : decode Y_Model_asked.2.1 1 = .ok (.iconst 0, 1) := by decide +kernel
theorem d_Model_asked_2 : decode Y_Model_asked.2.1 2 = .ok (.putfield 138, 3) := by decide +kernel
theorem d_Model_asked_5 : decode Y_Model_asked.2.1 5 = .ok (.iload_n 1, 1) := by decide +kernel
theorem d_Model_asked_6 : decode Y_Model_asked.2.1 6 = .ok (.ifCond .lt 20, 3) := by decide +kernel
theorem d_Model_asked_9 : decode Y_Model_asked.2.1 9 = .ok (.iload_n 1, 1) := by decide +kernel
theorem d_Model_asked_10 : decode Y_Model_asked.2.1 10 = .ok (.aload_n 0, 1) := by decide +kernel
theorem d_Model_asked_11 : decode Y_Model_asked.2.1 11 = .ok (.getfield 142, 3) := by decide +kernel
theorem d_Model_asked_14 : decode Y_Model_asked.2.1 14 = .ok (.if_icmp .ge 12, 3) := by decide +kernel
theorem d_Model_asked_17 : decode Y_Model_asked.2.1 17 = .ok (.aload_n 0, 1) := by decide +kernel
theorem d_Model_asked_18 : decode Y_Model_asked.2.1 18 = .ok (.getfield 126, 3) := by decide +kernel
theorem d_Model_asked_21 : decode Y_Model_asked.2.1 21 = .ok (.iload_n 1, 1) := by decide +kernel
theorem d_Model_asked_22 : decode Y_Model_asked.2.1 22 = .ok (.iaload, 1) := by decide +kernel
theorem d_Model_asked_23 : decode Y_Model_asked.2.1 23 = .ok (.goto 4, 3) := by decide +kernel
theorem d_Model_asked_26 : decode Y_Model_asked.2.1 26 = .ok (.iconst (-1), 1) := by decide +kernel
theorem d_Model_asked_27 : decode Y_Model_asked.2.1 27 = .ok (.ireturn, 1) := by decide +kernel
theorem d_Model_missing_0 : decode Y_Model_missing.2.1 0 = .ok (.aload_n 0, 1) := by decide +kernel
theorem d_Model_missing_1 : decode Y_Model_missing.2.1 1 = .ok (.iconst 0, 1) := by decide +kernel
theorem d_Model_missing_2 : decode Y_Model_missing.2.1 2 = .ok (.putfield 138, 3) := by decide +kernel
theorem d_Model_missing_5 : decode Y_Model_missing.2.1 5 = .ok (.aload_n 0, 1) := by decide +kernel
theorem d_Model_missing_6 : decode Y_Model_missing.2.1 6 = .ok (.getfield 184, 3) := by decide +kernel
theorem d_Model_missing_9 : decode Y_Model_missing.2.1 9 = .ok (.ifCond .eq 24, 3) := by decide +kernel
theorem d_Model_missing_12 : decode Y_Model_missing.2.1 12 = .ok (.iload_n 1, 1) := by decide +kernel
theorem d_Model_missing_13 : decode Y_Model_missing.2.1 13 = .ok (.ifCond .lt 20, 3) := by decide +kernel
theorem d_Model_missing_16 : decode Y_Model_missing.2.1 16 = .ok (.iload_n 1, 1) := by decide +kernel
theorem d_Model_missing_17 : decode Y_Model_missing.2.1 17 = .ok (.aload_n 0, 1) := by decide +kernel
theorem d_Model_missing_18 : decode Y_Model_missing.2.1 18 = .ok (.getfield 240, 3) := by decide +kernel
theorem d_Model_missing_21 : decode Y_Model_missing.2.1 21 = .ok (.if_icmp .ge 12, 3) := by decide +kernel
theorem d_Model_missing_24 : decode Y_Model_missing.2.1 24 = .ok (.aload_n 0, 1) := by decide +kernel
theorem d_Model_missing_25 : decode Y_Model_missing.2.1 25 = .ok (.getfield 50, 3) := by decide +kernel
theorem d_Model_missing_28 : decode Y_Model_missing.2.1 28 = .ok (.iload_n 1, 1) := by decide +kernel
theorem d_Model_missing_29 : decode Y_Model_missing.2.1 29 = .ok (.iaload, 1) := by decide +kernel
theorem d_Model_missing_30 : decode Y_Model_missing.2.1 30 = .ok (.goto 4, 3) := by decide +kernel
theorem d_Model_missing_33 : decode Y_Model_missing.2.1 33 = .ok (.iconst (-1), 1) := by decide +kernel
theorem d_Model_missing_34 : decode Y_Model_missing.2.1 34 = .ok (.ireturn, 1) := by decide +kernel
theorem d_Model_question_0 : decode Y_Model_question.2.1 0 = .ok (.aload_n 0, 1) := by decide +kernel
theorem d_Model_question_1 : decode Y_Model_question.2.1 1 = .ok (.aload_n 0, 1) := by decide +kernel
theorem d_Model_question_2 : decode Y_Model_question.2.1 2 = .ok (.getfield 184, 3) := by decide +kernel
theorem d_Model_question_5 : decode Y_Model_question.2.1 5 = .ok (.ifCond .eq 24, 3) := by decide +kernel
theorem d_Model_question_8 : decode Y_Model_question.2.1 8 = .ok (.iload_n 1, 1) := by decide +kernel
theorem d_Model_question_9 : decode Y_Model_question.2.1 9 = .ok (.ifCond .lt 20, 3) := by decide +kernel
theorem d_Model_question_12 : decode Y_Model_question.2.1 12 = .ok (.iload_n 1, 1) := by decide +kernel
theorem d_Model_question_13 : decode Y_Model_question.2.1 13 = .ok (.aload_n 0, 1) := by decide +kernel
theorem d_Model_question_14 : decode Y_Model_question.2.1 14 = .ok (.getfield 225, 3) := by decide +kernel
theorem d_Model_question_17 : decode Y_Model_question.2.1 17 = .ok (.if_icmp .ge 12, 3) := by decide +kernel
theorem d_Model_question_20 : decode Y_Model_question.2.1 20 = .ok (.iload_n 2, 1) := by decide +kernel
theorem d_Model_question_21 : decode Y_Model_question.2.1 21 = .ok (.ifCond .lt 8, 3) := by decide +kernel
theorem d_Model_question_24 : decode Y_Model_question.2.1 24 = .ok (.iload_n 2, 1) := by decide +kernel
theorem d_Model_question_25 : decode Y_Model_question.2.1 25 = .ok (.iconst 3, 1) := by decide +kernel
theorem d_Model_question_26 : decode Y_Model_question.2.1 26 = .ok (.if_icmp .le 7, 3) := by decide +kernel
theorem d_Model_question_29 : decode Y_Model_question.2.1 29 = .ok (.iconst 1, 1) := by decide +kernel
theorem d_Model_question_30 : decode Y_Model_question.2.1 30 = .ok (.goto 4, 3) := by decide +kernel
theorem d_Model_question_33 : decode Y_Model_question.2.1 33 = .ok (.iconst 0, 1) := by decide +kernel
theorem d_Model_question_34 : decode Y_Model_question.2.1 34 = .ok (.invokevirtual 153, 3) := by decide +kernel
theorem d_Model_question_37 : decode Y_Model_question.2.1 37 = .ok (.ifCond .eq 5, 3) := by decide +kernel
theorem d_Model_question_40 : decode Y_Model_question.2.1 40 = .ok (.iconst 0, 1) := by decide +kernel
theorem d_Model_question_41 : decode Y_Model_question.2.1 41 = .ok (.ireturn, 1) := by decide +kernel
theorem d_Model_question_42 : decode Y_Model_question.2.1 42 = .ok (.iload_n 2, 1) := by decide +kernel
theorem d_Model_question_43 : decode Y_Model_question.2.1 43 = .ok (.ifCond .ne 12, 3) := by decide +kernel
theorem d_Model_question_46 : decode Y_Model_question.2.1 46 = .ok (.aload_n 0, 1) := by decide +kernel
theorem d_Model_question_47 : decode Y_Model_question.2.1 47 = .ok (.getfield 53, 3) := by decide +kernel
theorem d_Model_question_50 : decode Y_Model_question.2.1 50 = .ok (.iload_n 1, 1) := by decide +kernel
theorem d_Model_question_51 : decode Y_Model_question.2.1 51 = .ok (.iaload, 1) := by decide +kernel
theorem d_Model_question_52 : decode Y_Model_question.2.1 52 = .ok (.goto 37, 3) := by decide +kernel
theorem d_Model_question_55 : decode Y_Model_question.2.1 55 = .ok (.iload_n 2, 1) := by decide +kernel
theorem d_Model_question_56 : decode Y_Model_question.2.1 56 = .ok (.iconst 1, 1) := by decide +kernel
theorem d_Model_question_57 : decode Y_Model_question.2.1 57 = .ok (.if_icmp .ne 12, 3) := by decide +kernel
theorem d_Model_question_60 : decode Y_Model_question.2.1 60 = .ok (.aload_n 0, 1) := by decide +kernel
theorem d_Model_question_61 : decode Y_Model_question.2.1 61 = .ok (.getfield 56, 3) := by decide +kernel
theorem d_Model_question_64 : decode Y_Model_question.2.1 64 = .ok (.iload_n 1, 1) := by decide +kernel
theorem d_Model_question_65 : decode Y_Model_question.2.1 65 = .ok (.iaload, 1) := by decide +kernel
theorem d_Model_question_66 : decode Y_Model_question.2.1 66 = .ok (.goto 23, 3) := by decide +kernel
theorem d_Model_question_69 : decode Y_Model_question.2.1 69 = .ok (.iload_n 2, 1) := by decide +kernel
theorem d_Model_question_70 : decode Y_Model_question.2.1 70 = .ok (.iconst 2, 1) := by decide +kernel
theorem d_Model_question_71 : decode Y_Model_question.2.1 71 = .ok (.if_icmp .ne 12, 3) := by decide +kernel
theorem d_Model_question_74 : decode Y_Model_question.2.1 74 = .ok (.aload_n 0, 1) := by decide +kernel
theorem d_Model_question_75 : decode Y_Model_question.2.1 75 = .ok (.getfield 59, 3) := by decide +kernel
theorem d_Model_question_78 : decode Y_Model_question.2.1 78 = .ok (.iload_n 1, 1) := by decide +kernel
theorem d_Model_question_79 : decode Y_Model_question.2.1 79 = .ok (.iaload, 1) := by decide +kernel
theorem d_Model_question_80 : decode Y_Model_question.2.1 80 = .ok (.goto 9, 3) := by decide +kernel
theorem d_Model_question_83 : decode Y_Model_question.2.1 83 = .ok (.aload_n 0, 1) := by decide +kernel
theorem d_Model_question_84 : decode Y_Model_question.2.1 84 = .ok (.getfield 62, 3) := by decide +kernel
theorem d_Model_question_87 : decode Y_Model_question.2.1 87 = .ok (.iload_n 1, 1) := by decide +kernel
theorem d_Model_question_88 : decode Y_Model_question.2.1 88 = .ok (.iaload, 1) := by decide +kernel
theorem d_Model_question_89 : decode Y_Model_question.2.1 89 = .ok (.ireturn, 1) := by decide +kernel
theorem d_Model_about_0 : decode Y_Model_about.2.1 0 = .ok (.aload_n 0, 1) := by decide +kernel
theorem d_Model_about_1 : decode Y_Model_about.2.1 1 = .ok (.iload_n 1, 1) := by decide +kernel
theorem d_Model_about_2 : decode Y_Model_about.2.1 2 = .ok (.ifCond .lt 9, 3) := by decide +kernel
theorem d_Model_about_5 : decode Y_Model_about.2.1 5 = .ok (.iload_n 1, 1) := by decide +kernel
theorem d_Model_about_6 : decode Y_Model_about.2.1 6 = .ok (.bipush 6, 2) := by decide +kernel
theorem d_Model_about_8 : decode Y_Model_about.2.1 8 = .ok (.if_icmp .le 7, 3) := by decide +kernel
theorem d_Model_about_11 : decode Y_Model_about.2.1 11 = .ok (.iconst 1, 1) := by decide +kernel
theorem d_Model_about_12 : decode Y_Model_about.2.1 12 = .ok (.goto 4, 3) := by decide +kernel
theorem d_Model_about_15 : decode Y_Model_about.2.1 15 = .ok (.iconst 0, 1) := by decide +kernel
theorem d_Model_about_16 : decode Y_Model_about.2.1 16 = .ok (.invokevirtual 153, 3) := by decide +kernel
theorem d_Model_about_19 : decode Y_Model_about.2.1 19 = .ok (.ifCond .eq 5, 3) := by decide +kernel
theorem d_Model_about_22 : decode Y_Model_about.2.1 22 = .ok (.iconst 0, 1) := by decide +kernel
theorem d_Model_about_23 : decode Y_Model_about.2.1 23 = .ok (.ireturn, 1) := by decide +kernel
theorem d_Model_about_24 : decode Y_Model_about.2.1 24 = .ok (.iload_n 1, 1) := by decide +kernel
theorem d_Model_about_25 : decode Y_Model_about.2.1 25 = .ok (.iconst 3, 1) := by decide +kernel
theorem d_Model_about_26 : decode Y_Model_about.2.1 26 = .ok (.if_icmp .ge 31, 3) := by decide +kernel
theorem d_Model_about_29 : decode Y_Model_about.2.1 29 = .ok (.iload_n 1, 1) := by decide +kernel
theorem d_Model_about_30 : decode Y_Model_about.2.1 30 = .ok (.ifCond .ne 10, 3) := by decide +kernel
theorem d_Model_about_33 : decode Y_Model_about.2.1 33 = .ok (.aload_n 0, 1) := by decide +kernel
theorem d_Model_about_34 : decode Y_Model_about.2.1 34 = .ok (.getfield 181, 3) := by decide +kernel
theorem d_Model_about_37 : decode Y_Model_about.2.1 37 = .ok (.goto 19, 3) := by decide +kernel
theorem d_Model_about_40 : decode Y_Model_about.2.1 40 = .ok (.iload_n 1, 1) := by decide +kernel
theorem d_Model_about_41 : decode Y_Model_about.2.1 41 = .ok (.iconst 1, 1) := by decide +kernel
theorem d_Model_about_42 : decode Y_Model_about.2.1 42 = .ok (.if_icmp .ne 10, 3) := by decide +kernel
theorem d_Model_about_45 : decode Y_Model_about.2.1 45 = .ok (.aload_n 0, 1) := by decide +kernel
theorem d_Model_about_46 : decode Y_Model_about.2.1 46 = .ok (.getfield 166, 3) := by decide +kernel
theorem d_Model_about_49 : decode Y_Model_about.2.1 49 = .ok (.goto 7, 3) := by decide +kernel
theorem d_Model_about_52 : decode Y_Model_about.2.1 52 = .ok (.aload_n 0, 1) := by decide +kernel
theorem d_Model_about_53 : decode Y_Model_about.2.1 53 = .ok (.getfield 163, 3) := by decide +kernel
theorem d_Model_about_56 : decode Y_Model_about.2.1 56 = .ok (.ireturn, 1) := by decide +kernel
theorem d_Model_about_57 : decode Y_Model_about.2.1 57 = .ok (.aload_n 0, 1) := by decide +kernel
theorem d_Model_about_58 : decode Y_Model_about.2.1 58 = .ok (.getfield 184, 3) := by decide +kernel
theorem d_Model_about_61 : decode Y_Model_about.2.1 61 = .ok (.ifCond .ne 7, 3) := by decide +kernel
theorem d_Model_about_64 : decode Y_Model_about.2.1 64 = .ok (.iconst 0, 1) := by decide +kernel
theorem d_Model_about_65 : decode Y_Model_about.2.1 65 = .ok (.goto 43, 3) := by decide +kernel
theorem d_Model_about_68 : decode Y_Model_about.2.1 68 = .ok (.iload_n 1, 1) := by decide +kernel
theorem d_Model_about_69 : decode Y_Model_about.2.1 69 = .ok (.iconst 3, 1) := by decide +kernel
theorem d_Model_about_70 : decode Y_Model_about.2.1 70 = .ok (.if_icmp .ne 10, 3) := by decide +kernel
theorem d_Model_about_73 : decode Y_Model_about.2.1 73 = .ok (.aload_n 0, 1) := by decide +kernel
theorem d_Model_about_74 : decode Y_Model_about.2.1 74 = .ok (.getfield 225, 3) := by decide +kernel
theorem d_Model_about_77 : decode Y_Model_about.2.1 77 = .ok (.goto 31, 3) := by decide +kernel
theorem d_Model_about_80 : decode Y_Model_about.2.1 80 = .ok (.iload_n 1, 1) := by decide +kernel
theorem d_Model_about_81 : decode Y_Model_about.2.1 81 = .ok (.iconst 4, 1) := by decide +kernel
theorem d_Model_about_82 : decode Y_Model_about.2.1 82 = .ok (.if_icmp .ne 10, 3) := by decide +kernel
theorem d_Model_about_85 : decode Y_Model_about.2.1 85 = .ok (.aload_n 0, 1) := by decide +kernel
theorem d_Model_about_86 : decode Y_Model_about.2.1 86 = .ok (.getfield 228, 3) := by decide +kernel
theorem d_Model_about_89 : decode Y_Model_about.2.1 89 = .ok (.goto 19, 3) := by decide +kernel
theorem d_Model_about_92 : decode Y_Model_about.2.1 92 = .ok (.iload_n 1, 1) := by decide +kernel
theorem d_Model_about_93 : decode Y_Model_about.2.1 93 = .ok (.iconst 5, 1) := by decide +kernel
theorem d_Model_about_94 : decode Y_Model_about.2.1 94 = .ok (.if_icmp .ne 10, 3) := by decide +kernel
theorem d_Model_about_97 : decode Y_Model_about.2.1 97 = .ok (.aload_n 0, 1) := by decide +kernel
theorem d_Model_about_98 : decode Y_Model_about.2.1 98 = .ok (.getfield 231, 3) := by decide +kernel
theorem d_Model_about_101 : decode Y_Model_about.2.1 101 = .ok (.goto 7, 3) := by decide +kernel
theorem d_Model_about_104 : decode Y_Model_about.2.1 104 = .ok (.aload_n 0, 1) := by decide +kernel
theorem d_Model_about_105 : decode Y_Model_about.2.1 105 = .ok (.getfield 234, 3) := by decide +kernel
theorem d_Model_about_108 : decode Y_Model_about.2.1 108 = .ok (.ireturn, 1) := by decide +kernel
section MB
variable {E : gE} {d : Nat} {G : gS} {m n : Nat} {s : mS}
theorem m_W_refuses0 (hmn : m < n) : GM E Y_Model_refuses d [.ref m, .int 0] (mW E G m n s) (rIs (some (.int 0)) (mW E G m n (wF s 0 0))) := by
  have K := m_Model_refuses (E := E) (d := d) (G := mW E G m n s) (mw_f (s := s)) 0
  rw [mw_upF] at K
  exact K
theorem m_W_refuses1 (hmn : m < n) : GM E Y_Model_refuses d [.ref m, .int 1] (mW E G m n s) (rIs (some (.int 1)) (mW E G m n (wF s 0 1))) := by
  have K := m_Model_refuses (E := E) (d := d) (G := mW E G m n s) (mw_f (s := s)) 1
  rw [mw_upF] at K
  exact K
theorem m_W_refuses2 (hmn : m < n) : GM E Y_Model_refuses d [.ref m, .int 2] (mW E G m n s) (rIs (some (.int 1)) (mW E G m n (wF s 0 2))) := by
  have K := m_Model_refuses (E := E) (d := d) (G := mW E G m n s) (mw_f (s := s)) 2
  rw [mw_upF] at K
  exact K
theorem m_W_thrown (hmn : m < n) : GM E Y_Model_thrown d [.ref m] (mW E G m n s) (rIs (some (.int (s.1 0))) (mW E G m n s)) := m_Model_thrown mw_f
abbrev rIsT (s : mS) (t : Int32) : Prop := ¬ t < 0 ∧ ¬ 16 ≤ t ∧ ¬ s.2 0 (tn t) ≤ 0
set_option maxHeartbeats 4000000 in
set_option maxRecDepth 100000 in
theorem m_W_isType (hmn : m < n) (t : Int32) : GM E Y_Model_isType d [.ref m, .int t] (mW E G m n s) (rIs (some (.int (b32 (rIsT s t)))) (mW E G m n s)) := by
  refine g_entry (by decide) (by simp [Value.category]) (Nat.le_of_ble_eq_true rfl) ?_
  refine g_iload_n d_Model_isType_0 rfl ?_
  refine g_if_lt (tgt := 23) d_Model_isType_1 (by decide) (fun c_1 => ?_) (fun c_1 => ?_)
  · refine g_iconst (v := 0) d_Model_isType_23 (by decide) ?_
    refine g_zret rfl rfl d_Model_isType_24 ?_
    refine ⟨?_, ?_⟩ <;> simp only [rIsT, b32, c_1, not_true_eq_false, not_false_eq_true, and_true, true_and, and_false, false_and, and_self, or_true, true_or, or_false, false_or, or_self, if_true, if_false, ite_true, ite_false]
  · refine g_iload_n d_Model_isType_4 rfl ?_
    refine g_bipush (v := 16) d_Model_isType_5 (by decide) ?_
    refine g_icmp_ge (tgt := 23) d_Model_isType_7 (by decide) (fun c_7 => ?_) (fun c_7 => ?_)
    · refine g_iconst (v := 0) d_Model_isType_23 (by decide) ?_
      refine g_zret rfl rfl d_Model_isType_24 ?_
      refine ⟨?_, ?_⟩ <;> simp only [rIsT, b32, c_1, c_7, not_true_eq_false, not_false_eq_true, and_true, true_and, and_false, false_and, and_self, or_true, true_or, or_false, false_or, or_self, if_true, if_false, ite_true, ite_false]
    · refine g_aload_n d_Model_isType_10 rfl ?_
      refine w_get (k := 1) fl_Model_7 (by decide) rfl d_Model_isType_11 ?_
      refine g_iload_n d_Model_isType_14 rfl ?_
      refine w_ald (j := 0) (q := tn t) (x := s.2 0 (tn t)) hmn (by decide) (by decide) (tn_hi c_1) (tn_lt c_1 c_7 (n := 16) (by decide)) rfl d_Model_isType_15 ?_
      refine g_if_le (tgt := 23) d_Model_isType_16 (by decide) (fun c_16 => ?_) (fun c_16 => ?_)
      · refine g_iconst (v := 0) d_Model_isType_23 (by decide) ?_
        refine g_zret rfl rfl d_Model_isType_24 ?_
        refine ⟨?_, ?_⟩ <;> simp only [rIsT, b32, c_1, c_7, c_16, not_true_eq_false, not_false_eq_true, and_true, true_and, and_false, false_and, and_self, or_true, true_or, or_false, false_or, or_self, if_true, if_false, ite_true, ite_false]
      · refine g_iconst (v := 1) d_Model_isType_19 (by decide) ?_
        refine g_goto (tgt := 24) d_Model_isType_20 (by decide) ?_
        refine g_zret rfl rfl d_Model_isType_24 ?_
        refine ⟨?_, ?_⟩ <;> simp only [rIsT, b32, c_1, c_7, c_16, not_true_eq_false, not_false_eq_true, and_true, true_and, and_false, false_and, and_self, or_true, true_or, or_false, false_or, or_self, if_true, if_false, ite_true, ite_false]
abbrev rIsM (s : mS) (t c : Int32) : Prop := rIsT s t ∧ ¬ c < 0 ∧ ¬ s.2 0 (tn t) - 1 ≤ c
set_option maxHeartbeats 4000000 in
set_option maxRecDepth 100000 in
theorem m_W_isMaker (hmn : m < n) (t c : Int32) : GM E Y_Model_isMaker (d + 1) [.ref m, .int t, .int c] (mW E G m n s) (rIs (some (.int (b32 (rIsM s t c)))) (mW E G m n s)) := by
  refine g_entry (by decide) (by simp [Value.category]) (Nat.le_of_ble_eq_true rfl) ?_
  refine g_aload_n d_Model_isMaker_0 rfl ?_
  refine g_iload_n d_Model_isMaker_1 rfl ?_
  refine c_Vr (as := [.int (t)]) kv_Model_isType ml_Model_145 rfl mw_f (m_W_isType hmn (s := s) t) rfl (Nat.le_of_ble_eq_true rfl) rfl d_Model_isMaker_2 rfl ?_
  refine g_if_eq (tgt := 28) d_Model_isMaker_5 (by decide) (fun c_5 => ?_) (fun c_5 => ?_)
  · have c_5 := b32_f c_5
    refine g_iconst (v := 0) d_Model_isMaker_28 (by decide) ?_
    refine g_zret rfl rfl d_Model_isMaker_29 ?_
    refine ⟨?_, ?_⟩ <;> simp only [rIsM, rIsT, b32, c_5, not_true_eq_false, not_false_eq_true, and_true, true_and, and_false, false_and, and_self, or_true, true_or, or_false, false_or, or_self, if_true, if_false, ite_true, ite_false]
  · have c_5 := b32_t c_5
    refine g_iload_n d_Model_isMaker_8 rfl ?_
    refine g_if_lt (tgt := 28) d_Model_isMaker_9 (by decide) (fun c_9 => ?_) (fun c_9 => ?_)
    · refine g_iconst (v := 0) d_Model_isMaker_28 (by decide) ?_
      refine g_zret rfl rfl d_Model_isMaker_29 ?_
      refine ⟨?_, ?_⟩ <;> simp only [rIsM, rIsT, b32, c_5, c_9, not_true_eq_false, not_false_eq_true, and_true, true_and, and_false, false_and, and_self, or_true, true_or, or_false, false_or, or_self, if_true, if_false, ite_true, ite_false]
    · refine g_iload_n d_Model_isMaker_12 rfl ?_
      refine g_aload_n d_Model_isMaker_13 rfl ?_
      refine w_get (k := 1) fl_Model_7 (by decide) rfl d_Model_isMaker_14 ?_
      refine g_iload_n d_Model_isMaker_17 rfl ?_
      refine w_ald (j := 0) (q := tn t) (x := s.2 0 (tn t)) hmn (by decide) (by decide) (tn_hi c_5.1) (tn_lt c_5.1 c_5.2.1 (n := 16) (by decide)) rfl d_Model_isMaker_18 ?_
      refine g_iconst (v := 1) d_Model_isMaker_19 (by decide) ?_
      refine g_isub d_Model_isMaker_20 ?_
      refine g_icmp_ge (tgt := 28) d_Model_isMaker_21 (by decide) (fun c_21 => ?_) (fun c_21 => ?_)
      · refine g_iconst (v := 0) d_Model_isMaker_28 (by decide) ?_
        refine g_zret rfl rfl d_Model_isMaker_29 ?_
        refine ⟨?_, ?_⟩ <;> simp only [rIsM, rIsT, b32, c_5, c_9, c_21, not_true_eq_false, not_false_eq_true, and_true, true_and, and_false, false_and, and_self, or_true, true_or, or_false, false_or, or_self, if_true, if_false, ite_true, ite_false]
      · refine g_iconst (v := 1) d_Model_isMaker_24 (by decide) ?_
        refine g_goto (tgt := 29) d_Model_isMaker_25 (by decide) ?_
        refine g_zret rfl rfl d_Model_isMaker_29 ?_
        refine ⟨?_, ?_⟩ <;> simp only [rIsM, rIsT, b32, c_5, c_9, c_21, not_true_eq_false, not_false_eq_true, and_true, true_and, and_false, false_and, and_self, or_true, true_or, or_false, false_or, or_self, if_true, if_false, ite_true, ite_false]
def rNode (s : mS) (k t w z e : Int32) : mS := wF (wA (wA (wA (wA (wA s 3 (tn (s.1 5)) k) 4 (tn (s.1 5)) t) 5 (tn (s.1 5)) w) 7 (tn (s.1 5)) z) 8 (tn (s.1 5)) e) 5 (s.1 5 + 1)
set_option maxHeartbeats 4000000 in
set_option maxRecDepth 100000 in
theorem m_W_node (hmn : m < n) (h5 : ¬ s.1 5 < 0) (b5 : tn (s.1 5) < 700) (k t w z e : Int32) : GM E Y_Model_node d [.ref m, .int k, .int t, .int w, .int z, .int e] (mW E G m n s) (rIs (some (.int (s.1 5 + 1 - 1))) (mW E G m n (rNode s k t w z e))) := by
  refine g_entry (by decide) (by simp [Value.category]) (Nat.le_of_ble_eq_true rfl) ?_
  refine g_aload_n d_Model_node_0 rfl ?_
  refine w_get (k := 6) fl_Model_19 (by decide) rfl d_Model_node_1 ?_
  refine g_aload_n d_Model_node_4 rfl ?_
  refine w_get (k := 5) (x := .int (s.1 5)) fl_Model_160 (by decide) rfl d_Model_node_5 ?_
  refine g_iload_n d_Model_node_8 rfl ?_
  refine w_ast (j := 3) (q := tn (s.1 5)) hmn (by decide) (by decide) (tn_hi h5) b5 d_Model_node_9 ?_
  refine g_aload_n d_Model_node_10 rfl ?_
  refine w_get (k := 7) fl_Model_22 (by decide) rfl d_Model_node_11 ?_
  refine g_aload_n d_Model_node_14 rfl ?_
  refine w_get (k := 5) (x := .int (s.1 5)) fl_Model_160 (by decide) rfl d_Model_node_15 ?_
  refine g_iload_n d_Model_node_18 rfl ?_
  refine w_ast (j := 4) (q := tn (s.1 5)) hmn (by decide) (by decide) (tn_hi h5) b5 d_Model_node_19 ?_
  refine g_aload_n d_Model_node_20 rfl ?_
  refine w_get (k := 8) fl_Model_25 (by decide) rfl d_Model_node_21 ?_
  refine g_aload_n d_Model_node_24 rfl ?_
  refine w_get (k := 5) (x := .int (s.1 5)) fl_Model_160 (by decide) rfl d_Model_node_25 ?_
  refine g_iload_n d_Model_node_28 rfl ?_
  refine w_ast (j := 5) (q := tn (s.1 5)) hmn (by decide) (by decide) (tn_hi h5) b5 d_Model_node_29 ?_
  refine g_aload_n d_Model_node_30 rfl ?_
  refine w_get (k := 10) fl_Model_31 (by decide) rfl d_Model_node_31 ?_
  refine g_aload_n d_Model_node_34 rfl ?_
  refine w_get (k := 5) (x := .int (s.1 5)) fl_Model_160 (by decide) rfl d_Model_node_35 ?_
  refine g_iload d_Model_node_38 rfl ?_
  refine w_ast (j := 7) (q := tn (s.1 5)) hmn (by decide) (by decide) (tn_hi h5) b5 d_Model_node_40 ?_
  refine g_aload_n d_Model_node_41 rfl ?_
  refine w_get (k := 11) fl_Model_34 (by decide) rfl d_Model_node_42 ?_
  refine g_aload_n d_Model_node_45 rfl ?_
  refine w_get (k := 5) (x := .int (s.1 5)) fl_Model_160 (by decide) rfl d_Model_node_46 ?_
  refine g_iload d_Model_node_49 rfl ?_
  refine w_ast (j := 8) (q := tn (s.1 5)) hmn (by decide) (by decide) (tn_hi h5) b5 d_Model_node_51 ?_
  refine g_aload_n d_Model_node_52 rfl ?_
  refine g_dup d_Model_node_53 rfl ?_
  refine w_get (k := 5) (x := .int (s.1 5)) fl_Model_160 (by decide) rfl d_Model_node_54 ?_
  refine g_iconst (v := 1) d_Model_node_57 (by decide) ?_
  refine g_iadd d_Model_node_58 ?_
  refine w_put (k := 5) fl_Model_160 (by decide) rfl rfl rfl rfl (Nat.le_of_ble_eq_true rfl) d_Model_node_59 ?_
  refine g_aload_n d_Model_node_62 rfl ?_
  refine w_get (k := 5) (x := .int ((s.1 5) + (1))) fl_Model_160 (by decide) rfl d_Model_node_63 ?_
  refine g_iconst (v := 1) d_Model_node_66 (by decide) ?_
  refine g_isub d_Model_node_67 ?_
  refine g_iret rfl d_Model_node_68 ?_
  exact ⟨rfl, rfl⟩
def rPush (s : mS) (x v : Int32) : mS := if v = 0 then wF (wA (wF s 4 1) 9 (tn (s.1 14)) x) 14 (s.1 14 + 1) else wF (wA (wF s 4 1) 10 (tn (s.1 15)) x) 15 (s.1 15 + 1)
abbrev rHt (s : mS) (v : Int32) : Int32 := if v = 0 then s.1 14 else s.1 15
set_option maxHeartbeats 4000000 in
set_option maxRecDepth 100000 in
theorem m_W_push (hmn : m < n) {v : Int32} (h14 : ¬ rHt s v < 0) (b14 : tn (rHt s v) < 40) (x : Int32) : GM E Y_Model_push d [.ref m, .int x, .int v] (mW E G m n s) (rIs (some (.int (rHt s v + 1))) (mW E G m n (rPush s x v))) := by
  refine g_entry (by decide) (by simp [Value.category]) (Nat.le_of_ble_eq_true rfl) ?_
  refine g_aload_n d_Model_push_0 rfl ?_
  refine g_iconst (v := 1) d_Model_push_1 (by decide) ?_
  refine w_put (k := 4) fl_Model_149 (by decide) rfl rfl rfl rfl (Nat.le_of_ble_eq_true rfl) d_Model_push_2 ?_
  refine g_iload_n d_Model_push_5 rfl ?_
  refine g_if_eq (tgt := 34) d_Model_push_6 (by decide) (fun c_6 => ?_) (fun c_6 => ?_)
  · simp only [rHt, c_6, if_true] at h14 b14
    refine g_aload_n d_Model_push_34 rfl ?_
    refine w_get (k := 12) fl_Model_37 (by decide) rfl d_Model_push_35 ?_
    refine g_aload_n d_Model_push_38 rfl ?_
    refine w_get (k := 14) (x := .int (s.1 14)) fl_Model_166 (by decide) rfl d_Model_push_39 ?_
    refine g_iload_n d_Model_push_42 rfl ?_
    refine w_ast (j := 9) (q := tn (s.1 14)) hmn (by decide) (by decide) (tn_hi h14) b14 d_Model_push_43 ?_
    refine g_aload_n d_Model_push_44 rfl ?_
    refine g_dup d_Model_push_45 rfl ?_
    refine w_get (k := 14) (x := .int (s.1 14)) fl_Model_166 (by decide) rfl d_Model_push_46 ?_
    refine g_iconst (v := 1) d_Model_push_49 (by decide) ?_
    refine g_iadd d_Model_push_50 ?_
    refine w_put (k := 14) fl_Model_166 (by decide) rfl rfl rfl rfl (Nat.le_of_ble_eq_true rfl) d_Model_push_51 ?_
    refine g_aload_n d_Model_push_54 rfl ?_
    refine w_get (k := 14) (x := .int ((s.1 14) + (1))) fl_Model_166 (by decide) rfl d_Model_push_55 ?_
    refine g_iret rfl d_Model_push_58 ?_
    refine ⟨?_, ?_⟩ <;> simp only [rPush, rHt, c_6, if_true, if_false] <;> rfl
  · simp only [rHt, c_6, if_false] at h14 b14
    refine g_aload_n d_Model_push_9 rfl ?_
    refine w_get (k := 13) fl_Model_40 (by decide) rfl d_Model_push_10 ?_
    refine g_aload_n d_Model_push_13 rfl ?_
    refine w_get (k := 15) (x := .int (s.1 15)) fl_Model_163 (by decide) rfl d_Model_push_14 ?_
    refine g_iload_n d_Model_push_17 rfl ?_
    refine w_ast (j := 10) (q := tn (s.1 15)) hmn (by decide) (by decide) (tn_hi h14) b14 d_Model_push_18 ?_
    refine g_aload_n d_Model_push_19 rfl ?_
    refine g_dup d_Model_push_20 rfl ?_
    refine w_get (k := 15) (x := .int (s.1 15)) fl_Model_163 (by decide) rfl d_Model_push_21 ?_
    refine g_iconst (v := 1) d_Model_push_24 (by decide) ?_
    refine g_iadd d_Model_push_25 ?_
    refine w_put (k := 15) fl_Model_163 (by decide) rfl rfl rfl rfl (Nat.le_of_ble_eq_true rfl) d_Model_push_26 ?_
    refine g_aload_n d_Model_push_29 rfl ?_
    refine w_get (k := 15) (x := .int ((s.1 15) + (1))) fl_Model_163 (by decide) rfl d_Model_push_30 ?_
    refine g_iret rfl d_Model_push_33 ?_
    refine ⟨?_, ?_⟩ <;> simp only [rPush, rHt, c_6, if_true, if_false] <;> rfl
set_option maxHeartbeats 4000000 in
set_option maxRecDepth 100000 in
theorem m_W_height (hmn : m < n) (v : Int32) : GM E Y_Model_height d [.ref m, .int v] (mW E G m n s) (rIs (some (.int (rHt s v))) (mW E G m n s)) := by
  refine g_entry (by decide) (by simp [Value.category]) (Nat.le_of_ble_eq_true rfl) ?_
  refine g_iload_n d_Model_height_0 rfl ?_
  refine g_if_eq (tgt := 11) d_Model_height_1 (by decide) (fun c_1 => ?_) (fun c_1 => ?_)
  · refine g_aload_n d_Model_height_11 rfl ?_
    refine w_get (k := 14) (x := .int (s.1 14)) fl_Model_166 (by decide) rfl d_Model_height_12 ?_
    refine g_iret rfl d_Model_height_15 ?_
    refine ⟨?_, ?_⟩ <;> simp only [rHt, c_1, if_true, if_false]
  · refine g_aload_n d_Model_height_4 rfl ?_
    refine w_get (k := 15) (x := .int (s.1 15)) fl_Model_163 (by decide) rfl d_Model_height_5 ?_
    refine g_goto (tgt := 15) d_Model_height_8 (by decide) ?_
    refine g_iret rfl d_Model_height_15 ?_
    refine ⟨?_, ?_⟩ <;> simp only [rHt, c_1, if_true, if_false]
set_option maxHeartbeats 4000000 in
set_option maxRecDepth 100000 in
theorem m_W_asked (hmn : m < n) (b : s.1 54 ≤ 520) (x : Int32) : GM E Y_Model_asked d [.ref m, .int x] (mW E G m n s) (rIs (some (.int (if ¬ x < 0 ∧ ¬ s.1 54 ≤ x then s.2 37 (tn x) else -1))) (mW E G m n (wF s 0 0))) := by
  refine g_entry (by decide) (by simp [Value.category]) (Nat.le_of_ble_eq_true rfl) ?_
  refine g_aload_n d_Model_asked_0 rfl ?_
  refine g_iconst (v := 0) d_Model_asked_1 (by decide) ?_
  refine w_put (k := 0) fl_Model_138 (by decide) rfl rfl rfl rfl (Nat.le_of_ble_eq_true rfl) d_Model_asked_2 ?_
  refine g_iload_n d_Model_asked_5 rfl ?_
  refine g_if_lt (tgt := 26) d_Model_asked_6 (by decide) (fun c_6 => ?_) (fun c_6 => ?_)
  · refine g_iconst (v := (-1)) d_Model_asked_26 (by decide) ?_
    refine g_iret rfl d_Model_asked_27 ?_
    refine ⟨?_, ?_⟩ <;> simp only [rIsT, b32, c_6, not_true_eq_false, not_false_eq_true, and_true, true_and, and_false, false_and, and_self, or_true, true_or, or_false, false_or, or_self, if_true, if_false, ite_true, ite_false]
  · refine g_iload_n d_Model_asked_9 rfl ?_
    refine g_aload_n d_Model_asked_10 rfl ?_
    refine w_get (k := 54) (x := .int (s.1 54)) fl_Model_142 (by decide) rfl d_Model_asked_11 ?_
    refine g_icmp_ge (tgt := 26) d_Model_asked_14 (by decide) (fun c_14 => ?_) (fun c_14 => ?_)
    · refine g_iconst (v := (-1)) d_Model_asked_26 (by decide) ?_
      refine g_iret rfl d_Model_asked_27 ?_
      refine ⟨?_, ?_⟩ <;> simp only [rIsT, b32, c_6, c_14, not_true_eq_false, not_false_eq_true, and_true, true_and, and_false, false_and, and_self, or_true, true_or, or_false, false_or, or_self, if_true, if_false, ite_true, ite_false]
    · refine g_aload_n d_Model_asked_17 rfl ?_
      refine w_get (k := 55) fl_Model_126 (by decide) rfl d_Model_asked_18 ?_
      refine g_iload_n d_Model_asked_21 rfl ?_
      refine w_ald (j := 37) (q := tn x) (x := s.2 37 (tn x)) hmn (by decide) (by decide) (tn_hi c_6) (tn_lt c_6 (c := 520) (fun q => c_14 (Int32.le_trans b q)) (by decide)) rfl d_Model_asked_22 ?_
      refine g_goto (tgt := 27) d_Model_asked_23 (by decide) ?_
      refine g_iret rfl d_Model_asked_27 ?_
      refine ⟨?_, ?_⟩ <;> simp only [rIsT, b32, c_6, c_14, not_true_eq_false, not_false_eq_true, and_true, true_and, and_false, false_and, and_self, or_true, true_or, or_false, false_or, or_self, if_true, if_false, ite_true, ite_false]
set_option maxHeartbeats 4000000 in
set_option maxRecDepth 100000 in
theorem m_W_missing (hmn : m < n) (b : s.1 25 ≤ 9000) (x : Int32) : GM E Y_Model_missing d [.ref m, .int x] (mW E G m n s) (rIs (some (.int (if ¬ s.1 19 = 0 ∧ ¬ x < 0 ∧ ¬ s.1 25 ≤ x then s.2 13 (tn x) else -1))) (mW E G m n (wF s 0 0))) := by
  refine g_entry (by decide) (by simp [Value.category]) (Nat.le_of_ble_eq_true rfl) ?_
  refine g_aload_n d_Model_missing_0 rfl ?_
  refine g_iconst (v := 0) d_Model_missing_1 (by decide) ?_
  refine w_put (k := 0) fl_Model_138 (by decide) rfl rfl rfl rfl (Nat.le_of_ble_eq_true rfl) d_Model_missing_2 ?_
  refine g_aload_n d_Model_missing_5 rfl ?_
  refine w_get (k := 19) (x := .int (s.1 19)) fl_Model_184 (by decide) rfl d_Model_missing_6 ?_
  refine g_if_eq (tgt := 33) d_Model_missing_9 (by decide) (fun c_9 => ?_) (fun c_9 => ?_)
  · refine g_iconst (v := (-1)) d_Model_missing_33 (by decide) ?_
    refine g_iret rfl d_Model_missing_34 ?_
    refine ⟨?_, ?_⟩ <;> simp only [rIsT, b32, c_9, not_true_eq_false, not_false_eq_true, and_true, true_and, and_false, false_and, and_self, or_true, true_or, or_false, false_or, or_self, if_true, if_false, ite_true, ite_false]
  · refine g_iload_n d_Model_missing_12 rfl ?_
    refine g_if_lt (tgt := 33) d_Model_missing_13 (by decide) (fun c_13 => ?_) (fun c_13 => ?_)
    · refine g_iconst (v := (-1)) d_Model_missing_33 (by decide) ?_
      refine g_iret rfl d_Model_missing_34 ?_
      refine ⟨?_, ?_⟩ <;> simp only [rIsT, b32, c_9, c_13, not_true_eq_false, not_false_eq_true, and_true, true_and, and_false, false_and, and_self, or_true, true_or, or_false, false_or, or_self, if_true, if_false, ite_true, ite_false]
    · refine g_iload_n d_Model_missing_16 rfl ?_
      refine g_aload_n d_Model_missing_17 rfl ?_
      refine w_get (k := 25) (x := .int (s.1 25)) fl_Model_240 (by decide) rfl d_Model_missing_18 ?_
      refine g_icmp_ge (tgt := 33) d_Model_missing_21 (by decide) (fun c_21 => ?_) (fun c_21 => ?_)
      · refine g_iconst (v := (-1)) d_Model_missing_33 (by decide) ?_
        refine g_iret rfl d_Model_missing_34 ?_
        refine ⟨?_, ?_⟩ <;> simp only [rIsT, b32, c_9, c_13, c_21, not_true_eq_false, not_false_eq_true, and_true, true_and, and_false, false_and, and_self, or_true, true_or, or_false, false_or, or_self, if_true, if_false, ite_true, ite_false]
      · refine g_aload_n d_Model_missing_24 rfl ?_
        refine w_get (k := 27) fl_Model_50 (by decide) rfl d_Model_missing_25 ?_
        refine g_iload_n d_Model_missing_28 rfl ?_
        refine w_ald (j := 13) (q := tn x) (x := s.2 13 (tn x)) hmn (by decide) (by decide) (tn_hi c_13) (tn_lt c_13 (c := 9000) (fun q => c_21 (Int32.le_trans b q)) (by decide)) rfl d_Model_missing_29 ?_
        refine g_goto (tgt := 34) d_Model_missing_30 (by decide) ?_
        refine g_iret rfl d_Model_missing_34 ?_
        refine ⟨?_, ?_⟩ <;> simp only [rIsT, b32, c_9, c_13, c_21, not_true_eq_false, not_false_eq_true, and_true, true_and, and_false, false_and, and_self, or_true, true_or, or_false, false_or, or_self, if_true, if_false, ite_true, ite_false]
end MB

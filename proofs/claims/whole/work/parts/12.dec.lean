theorem d_Pile_height_0 : decode Y_Pile_height.2.1 0 = .ok (.aload_n 0, 1) := by decide +kernel
theorem d_Pile_height_1 : decode Y_Pile_height.2.1 1 = .ok (.getfield 17, 3) := by decide +kernel
theorem d_Pile_height_4 : decode Y_Pile_height.2.1 4 = .ok (.ireturn, 1) := by decide +kernel
theorem d_Pile_isFull_0 : decode Y_Pile_isFull.2.1 0 = .ok (.aload_n 0, 1) := by decide +kernel
theorem d_Pile_isFull_1 : decode Y_Pile_isFull.2.1 1 = .ok (.getfield 17, 3) := by decide +kernel
theorem d_Pile_isFull_4 : decode Y_Pile_isFull.2.1 4 = .ok (.bipush 40, 2) := by decide +kernel
theorem d_Pile_isFull_6 : decode Y_Pile_isFull.2.1 6 = .ok (.if_icmp .lt 7, 3) := by decide +kernel
theorem d_Pile_isFull_9 : decode Y_Pile_isFull.2.1 9 = .ok (.iconst 1, 1) := by decide +kernel
theorem d_Pile_isFull_10 : decode Y_Pile_isFull.2.1 10 = .ok (.goto 4, 3) := by decide +kernel
theorem d_Pile_isFull_13 : decode Y_Pile_isFull.2.1 13 = .ok (.iconst 0, 1) := by decide +kernel
theorem d_Pile_isFull_14 : decode Y_Pile_isFull.2.1 14 = .ok (.ireturn, 1) := by decide +kernel
theorem d_Types_canBe_0 : decode Y_Types_canBe.2.1 0 = .ok (.iload_n 1, 1) := by decide +kernel
theorem d_Types_canBe_1 : decode Y_Types_canBe.2.1 1 = .ok (.ifCond .lt 13, 3) := by decide +kernel
theorem d_Types_canBe_4 : decode Y_Types_canBe.2.1 4 = .ok (.iload_n 1, 1) := by decide +kernel
theorem d_Types_canBe_5 : decode Y_Types_canBe.2.1 5 = .ok (.bipush 16, 2) := by decide +kernel
theorem d_Types_canBe_7 : decode Y_Types_canBe.2.1 7 = .ok (.if_icmp .ge 7, 3) := by decide +kernel
theorem d_Types_canBe_10 : decode Y_Types_canBe.2.1 10 = .ok (.iconst 1, 1) := by decide +kernel
theorem d_Types_canBe_11 : decode Y_Types_canBe.2.1 11 = .ok (.goto 4, 3) := by decide +kernel
theorem d_Types_canBe_14 : decode Y_Types_canBe.2.1 14 = .ok (.iconst 0, 1) := by decide +kernel
theorem d_Types_canBe_15 : decode Y_Types_canBe.2.1 15 = .ok (.ireturn, 1) := by decide +kernel
theorem d_Types_isTold_0 : decode Y_Types_isTold.2.1 0 = .ok (.aload_n 0, 1) := by decide +kernel
theorem d_Types_isTold_1 : decode Y_Types_isTold.2.1 1 = .ok (.iload_n 1, 1) := by decide +kernel
theorem d_Types_isTold_2 : decode Y_Types_isTold.2.1 2 = .ok (.invokevirtual 27, 3) := by decide +kernel
theorem d_Types_isTold_5 : decode Y_Types_isTold.2.1 5 = .ok (.ifCond .eq 17, 3) := by decide +kernel
theorem d_Types_isTold_8 : decode Y_Types_isTold.2.1 8 = .ok (.aload_n 0, 1) := by decide +kernel
theorem d_Types_isTold_9 : decode Y_Types_isTold.2.1 9 = .ok (.getfield 9, 3) := by decide +kernel
theorem d_Types_isTold_12 : decode Y_Types_isTold.2.1 12 = .ok (.iload_n 1, 1) := by decide +kernel
theorem d_Types_isTold_13 : decode Y_Types_isTold.2.1 13 = .ok (.iaload, 1) := by decide +kernel
theorem d_Types_isTold_14 : decode Y_Types_isTold.2.1 14 = .ok (.iconst (-1), 1) := by decide +kernel
theorem d_Types_isTold_15 : decode Y_Types_isTold.2.1 15 = .ok (.if_icmp .eq 7, 3) := by decide +kernel
theorem d_Types_isTold_18 : decode Y_Types_isTold.2.1 18 = .ok (.iconst 1, 1) := by decide +kernel
theorem d_Types_isTold_19 : decode Y_Types_isTold.2.1 19 = .ok (.goto 4, 3) := by decide +kernel
theorem d_Types_isTold_22 : decode Y_Types_isTold.2.1 22 = .ok (.iconst 0, 1) := by decide +kernel
theorem d_Types_isTold_23 : decode Y_Types_isTold.2.1 23 = .ok (.ireturn, 1) := by decide +kernel
theorem d_Types_tell_0 : decode Y_Types_tell.2.1 0 = .ok (.aload_n 0, 1) := by decide +kernel
theorem d_Types_tell_1 : decode Y_Types_tell.2.1 1 = .ok (.getfield 9, 3) := by decide +kernel
theorem d_Types_tell_4 : decode Y_Types_tell.2.1 4 = .ok (.iload_n 1, 1) := by decide +kernel
theorem d_Types_tell_5 : decode Y_Types_tell.2.1 5 = .ok (.iload_n 2, 1) := by decide +kernel
theorem d_Types_tell_6 : decode Y_Types_tell.2.1 6 = .ok (.iastore, 1) := by decide +kernel
theorem d_Types_tell_7 : decode Y_Types_tell.2.1 7 = .ok (.return_, 1) := by decide +kernel
theorem d_Mill_type_0 : decode Y_Mill_type.2.1 0 = .ok (.aload_n 0, 1) := by decide +kernel
theorem d_Mill_type_1 : decode Y_Mill_type.2.1 1 = .ok (.getfield 15, 3) := by decide +kernel
theorem d_Mill_type_4 : decode Y_Mill_type.2.1 4 = .ok (.iload_n 1, 1) := by decide +kernel
theorem d_Mill_type_5 : decode Y_Mill_type.2.1 5 = .ok (.invokevirtual 49, 3) := by decide +kernel
theorem d_Mill_type_8 : decode Y_Mill_type.2.1 8 = .ok (.ifCond .eq 13, 3) := by decide +kernel
theorem d_Mill_type_11 : decode Y_Mill_type.2.1 11 = .ok (.iload_n 2, 1) := by decide +kernel
theorem d_Mill_type_12 : decode Y_Mill_type.2.1 12 = .ok (.ifCond .lt 9, 3) := by decide +kernel
theorem d_Mill_type_15 : decode Y_Mill_type.2.1 15 = .ok (.iload_n 2, 1) := by decide +kernel
theorem d_Mill_type_16 : decode Y_Mill_type.2.1 16 = .ok (.bipush 8, 2) := by decide +kernel
theorem d_Mill_type_18 : decode Y_Mill_type.2.1 18 = .ok (.if_icmp .le 11, 3) := by decide +kernel
theorem d_Mill_type_21 : decode Y_Mill_type.2.1 21 = .ok (.new 53, 3) := by decide +kernel
theorem d_Mill_type_24 : decode Y_Mill_type.2.1 24 = .ok (.dup, 1) := by decide +kernel
theorem d_Mill_type_25 : decode Y_Mill_type.2.1 25 = .ok (.invokespecial 55, 3) := by decide +kernel
theorem d_Mill_type_28 : decode Y_Mill_type.2.1 28 = .ok (.athrow, 1) := by decide +kernel
theorem d_Mill_type_29 : decode Y_Mill_type.2.1 29 = .ok (.aload_n 0, 1) := by decide +kernel
theorem d_Mill_type_30 : decode Y_Mill_type.2.1 30 = .ok (.getfield 56, 3) := by decide +kernel
theorem d_Mill_type_33 : decode Y_Mill_type.2.1 33 = .ok (.ifCond .ne 14, 3) := by decide +kernel
theorem d_Mill_type_36 : decode Y_Mill_type.2.1 36 = .ok (.aload_n 0, 1) := by decide +kernel
theorem d_Mill_type_37 : decode Y_Mill_type.2.1 37 = .ok (.getfield 15, 3) := by decide +kernel
theorem d_Mill_type_40 : decode Y_Mill_type.2.1 40 = .ok (.iload_n 1, 1) := by decide +kernel
theorem d_Mill_type_41 : decode Y_Mill_type.2.1 41 = .ok (.invokevirtual 60, 3) := by decide +kernel
theorem d_Mill_type_44 : decode Y_Mill_type.2.1 44 = .ok (.ifCond .eq 11, 3) := by decide +kernel
theorem d_Mill_type_47 : decode Y_Mill_type.2.1 47 = .ok (.new 63, 3) := by decide +kernel
theorem d_Mill_type_50 : decode Y_Mill_type.2.1 50 = .ok (.dup, 1) := by decide +kernel
theorem d_Mill_type_51 : decode Y_Mill_type.2.1 51 = .ok (.invokespecial 65, 3) := by decide +kernel
theorem d_Mill_type_54 : decode Y_Mill_type.2.1 54 = .ok (.athrow, 1) := by decide +kernel
theorem d_Mill_type_55 : decode Y_Mill_type.2.1 55 = .ok (.aload_n 0, 1) := by decide +kernel
theorem d_Mill_type_56 : decode Y_Mill_type.2.1 56 = .ok (.getfield 15, 3) := by decide +kernel
theorem d_Mill_type_59 : decode Y_Mill_type.2.1 59 = .ok (.iload_n 1, 1) := by decide +kernel
theorem d_Mill_type_60 : decode Y_Mill_type.2.1 60 = .ok (.iload_n 2, 1) := by decide +kernel
theorem d_Mill_type_61 : decode Y_Mill_type.2.1 61 = .ok (.invokevirtual 66, 3) := by decide +kernel
theorem d_Mill_type_64 : decode Y_Mill_type.2.1 64 = .ok (.return_, 1) := by decide +kernel

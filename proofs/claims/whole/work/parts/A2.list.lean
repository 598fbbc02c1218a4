/-! ArrayList's methods over the class's world, for any of its four lists -/
theorem d_ArrayList_get_0 : decode Y_ArrayList_get.2.1 0 = .ok (.iload_n 1, 1) := by decide +kernel
theorem d_ArrayList_get_1 : decode Y_ArrayList_get.2.1 1 = .ok (.aload_n 0, 1) := by decide +kernel
theorem d_ArrayList_get_2 : decode Y_ArrayList_get.2.1 2 = .ok (.getfield 48, 3) := by decide +kernel
theorem d_ArrayList_get_5 : decode Y_ArrayList_get.2.1 5 = .ok (.invokestatic 118, 3) := by decide +kernel
theorem d_ArrayList_get_8 : decode Y_ArrayList_get.2.1 8 = .ok (.pop, 1) := by decide +kernel
theorem d_ArrayList_get_9 : decode Y_ArrayList_get.2.1 9 = .ok (.aload_n 0, 1) := by decide +kernel
theorem d_ArrayList_get_10 : decode Y_ArrayList_get.2.1 10 = .ok (.iload_n 1, 1) := by decide +kernel
theorem d_ArrayList_get_11 : decode Y_ArrayList_get.2.1 11 = .ok (.invokevirtual 123, 3) := by decide +kernel
theorem d_ArrayList_get_14 : decode Y_ArrayList_get.2.1 14 = .ok (.areturn, 1) := by decide +kernel
theorem d_ArrayList_elementData_0 : decode Y_ArrayList_elementData.2.1 0 = .ok (.aload_n 0, 1) := by decide +kernel
theorem d_ArrayList_elementData_1 : decode Y_ArrayList_elementData.2.1 1 = .ok (.getfield 9, 3) := by decide +kernel
theorem d_ArrayList_elementData_4 : decode Y_ArrayList_elementData.2.1 4 = .ok (.iload_n 1, 1) := by decide +kernel
theorem d_ArrayList_elementData_5 : decode Y_ArrayList_elementData.2.1 5 = .ok (.aaload, 1) := by decide +kernel
theorem d_ArrayList_elementData_6 : decode Y_ArrayList_elementData.2.1 6 = .ok (.areturn, 1) := by decide +kernel
theorem d_ArrayList_set_0 : decode Y_ArrayList_set.2.1 0 = .ok (.iload_n 1, 1) := by decide +kernel
theorem d_ArrayList_set_1 : decode Y_ArrayList_set.2.1 1 = .ok (.aload_n 0, 1) := by decide +kernel
theorem d_ArrayList_set_2 : decode Y_ArrayList_set.2.1 2 = .ok (.getfield 48, 3) := by decide +kernel
theorem d_ArrayList_set_5 : decode Y_ArrayList_set.2.1 5 = .ok (.invokestatic 118, 3) := by decide +kernel
theorem d_ArrayList_set_8 : decode Y_ArrayList_set.2.1 8 = .ok (.pop, 1) := by decide +kernel
theorem d_ArrayList_set_9 : decode Y_ArrayList_set.2.1 9 = .ok (.aload_n 0, 1) := by decide +kernel
theorem d_ArrayList_set_10 : decode Y_ArrayList_set.2.1 10 = .ok (.iload_n 1, 1) := by decide +kernel
theorem d_ArrayList_set_11 : decode Y_ArrayList_set.2.1 11 = .ok (.invokevirtual 123, 3) := by decide +kernel
theorem d_ArrayList_set_14 : decode Y_ArrayList_set.2.1 14 = .ok (.astore_n 3, 1) := by decide +kernel
theorem d_ArrayList_set_15 : decode Y_ArrayList_set.2.1 15 = .ok (.aload_n 0, 1) := by decide +kernel
theorem d_ArrayList_set_16 : decode Y_ArrayList_set.2.1 16 = .ok (.getfield 9, 3) := by decide +kernel
theorem d_ArrayList_set_19 : decode Y_ArrayList_set.2.1 19 = .ok (.iload_n 1, 1) := by decide +kernel
theorem d_ArrayList_set_20 : decode Y_ArrayList_set.2.1 20 = .ok (.aload_n 2, 1) := by decide +kernel
theorem d_ArrayList_set_21 : decode Y_ArrayList_set.2.1 21 = .ok (.aastore, 1) := by decide +kernel
theorem d_ArrayList_set_22 : decode Y_ArrayList_set.2.1 22 = .ok (.aload_n 3, 1) := by decide +kernel
theorem d_ArrayList_set_23 : decode Y_ArrayList_set.2.1 23 = .ok (.areturn, 1) := by decide +kernel
theorem d_Objects_checkIndex_0 : decode Y_Objects_checkIndex.2.1 0 = .ok (.iload_n 0, 1) := by decide +kernel
theorem d_Objects_checkIndex_1 : decode Y_Objects_checkIndex.2.1 1 = .ok (.iload_n 1, 1) := by decide +kernel
theorem d_Objects_checkIndex_2 : decode Y_Objects_checkIndex.2.1 2 = .ok (.aconst_null, 1) := by decide +kernel
theorem d_Objects_checkIndex_3 : decode Y_Objects_checkIndex.2.1 3 = .ok (.invokestatic 105, 3) := by decide +kernel
theorem d_Objects_checkIndex_6 : decode Y_Objects_checkIndex.2.1 6 = .ok (.ireturn, 1) := by decide +kernel
theorem d_Preconditions_checkIndex_0 : decode Y_Preconditions_checkIndex.2.1 0 = .ok (.iload_n 0, 1) := by decide +kernel
theorem d_Preconditions_checkIndex_1 : decode Y_Preconditions_checkIndex.2.1 1 = .ok (.ifCond .lt 8, 3) := by decide +kernel
theorem d_Preconditions_checkIndex_4 : decode Y_Preconditions_checkIndex.2.1 4 = .ok (.iload_n 0, 1) := by decide +kernel
theorem d_Preconditions_checkIndex_5 : decode Y_Preconditions_checkIndex.2.1 5 = .ok (.iload_n 1, 1) := by decide +kernel
theorem d_Preconditions_checkIndex_6 : decode Y_Preconditions_checkIndex.2.1 6 = .ok (.if_icmp .lt 10, 3) := by decide +kernel
theorem d_Preconditions_checkIndex_9 : decode Y_Preconditions_checkIndex.2.1 9 = .ok (.aload_n 2, 1) := by decide +kernel
theorem d_Preconditions_checkIndex_10 : decode Y_Preconditions_checkIndex.2.1 10 = .ok (.iload_n 0, 1) := by decide +kernel
theorem d_Preconditions_checkIndex_11 : decode Y_Preconditions_checkIndex.2.1 11 = .ok (.iload_n 1, 1) := by decide +kernel
theorem d_Preconditions_checkIndex_12 : decode Y_Preconditions_checkIndex.2.1 12 = .ok (.invokestatic 95, 3) := by decide +kernel
theorem d_Preconditions_checkIndex_15 : decode Y_Preconditions_checkIndex.2.1 15 = .ok (.athrow, 1) := by decide +kernel
theorem d_Preconditions_checkIndex_16 : decode Y_Preconditions_checkIndex.2.1 16 = .ok (.iload_n 0, 1) := by decide +kernel
theorem d_Preconditions_checkIndex_17 : decode Y_Preconditions_checkIndex.2.1 17 = .ok (.ireturn, 1) := by decide +kernel
theorem d_ArrayList_add_0 : decode Y_ArrayList_add.2.1 0 = .ok (.aload_n 0, 1) := by decide +kernel
theorem d_ArrayList_add_1 : decode Y_ArrayList_add.2.1 1 = .ok (.dup, 1) := by decide +kernel
theorem d_ArrayList_add_2 : decode Y_ArrayList_add.2.1 2 = .ok (.getfield 63, 3) := by decide +kernel
theorem d_ArrayList_add_5 : decode Y_ArrayList_add.2.1 5 = .ok (.iconst 1, 1) := by decide +kernel
theorem d_ArrayList_add_6 : decode Y_ArrayList_add.2.1 6 = .ok (.iadd, 1) := by decide +kernel
theorem d_ArrayList_add_7 : decode Y_ArrayList_add.2.1 7 = .ok (.putfield 63, 3) := by decide +kernel
theorem d_ArrayList_add_10 : decode Y_ArrayList_add.2.1 10 = .ok (.aload_n 0, 1) := by decide +kernel
theorem d_ArrayList_add_11 : decode Y_ArrayList_add.2.1 11 = .ok (.aload_n 1, 1) := by decide +kernel
theorem d_ArrayList_add_12 : decode Y_ArrayList_add.2.1 12 = .ok (.aload_n 0, 1) := by decide +kernel
theorem d_ArrayList_add_13 : decode Y_ArrayList_add.2.1 13 = .ok (.getfield 9, 3) := by decide +kernel
theorem d_ArrayList_add_16 : decode Y_ArrayList_add.2.1 16 = .ok (.aload_n 0, 1) := by decide +kernel
theorem d_ArrayList_add_17 : decode Y_ArrayList_add.2.1 17 = .ok (.getfield 48, 3) := by decide +kernel
theorem d_ArrayList_add_20 : decode Y_ArrayList_add.2.1 20 = .ok (.invokevirtual 131, 3) := by decide +kernel
theorem d_ArrayList_add_23 : decode Y_ArrayList_add.2.1 23 = .ok (.iconst 1, 1) := by decide +kernel
theorem d_ArrayList_add_24 : decode Y_ArrayList_add.2.1 24 = .ok (.ireturn, 1) := by decide +kernel
theorem d_ArrayList_add2_0 : decode Y_ArrayList_add2.2.1 0 = .ok (.iload_n 3, 1) := by decide +kernel
theorem d_ArrayList_add2_1 : decode Y_ArrayList_add2.2.1 1 = .ok (.aload_n 2, 1) := by decide +kernel
theorem d_ArrayList_add2_2 : decode Y_ArrayList_add2.2.1 2 = .ok (.arraylength, 1) := by decide +kernel
theorem d_ArrayList_add2_3 : decode Y_ArrayList_add2.2.1 3 = .ok (.if_icmp .ne 8, 3) := by decide +kernel
theorem d_ArrayList_add2_6 : decode Y_ArrayList_add2.2.1 6 = .ok (.aload_n 0, 1) := by decide +kernel
theorem d_ArrayList_add2_7 : decode Y_ArrayList_add2.2.1 7 = .ok (.invokevirtual 129, 3) := by decide +kernel
theorem d_ArrayList_add2_10 : decode Y_ArrayList_add2.2.1 10 = .ok (.astore_n 2, 1) := by decide +kernel
theorem d_ArrayList_add2_11 : decode Y_ArrayList_add2.2.1 11 = .ok (.aload_n 2, 1) := by decide +kernel
theorem d_ArrayList_add2_12 : decode Y_ArrayList_add2.2.1 12 = .ok (.iload_n 3, 1) := by decide +kernel
theorem d_ArrayList_add2_13 : decode Y_ArrayList_add2.2.1 13 = .ok (.aload_n 1, 1) := by decide +kernel
theorem d_ArrayList_add2_14 : decode Y_ArrayList_add2.2.1 14 = .ok (.aastore, 1) := by decide +kernel
theorem d_ArrayList_add2_15 : decode Y_ArrayList_add2.2.1 15 = .ok (.aload_n 0, 1) := by decide +kernel
theorem d_ArrayList_add2_16 : decode Y_ArrayList_add2.2.1 16 = .ok (.iload_n 3, 1) := by decide +kernel
theorem d_ArrayList_add2_17 : decode Y_ArrayList_add2.2.1 17 = .ok (.iconst 1, 1) := by decide +kernel
theorem d_ArrayList_add2_18 : decode Y_ArrayList_add2.2.1 18 = .ok (.iadd, 1) := by decide +kernel
theorem d_ArrayList_add2_19 : decode Y_ArrayList_add2.2.1 19 = .ok (.putfield 48, 3) := by decide +kernel
theorem d_ArrayList_add2_22 : decode Y_ArrayList_add2.2.1 22 = .ok (.return_, 1) := by decide +kernel
theorem d_ArrayList_grow_0 : decode Y_ArrayList_grow.2.1 0 = .ok (.aload_n 0, 1) := by decide +kernel
theorem d_ArrayList_grow_1 : decode Y_ArrayList_grow.2.1 1 = .ok (.aload_n 0, 1) := by decide +kernel
theorem d_ArrayList_grow_2 : decode Y_ArrayList_grow.2.1 2 = .ok (.getfield 48, 3) := by decide +kernel
theorem d_ArrayList_grow_5 : decode Y_ArrayList_grow.2.1 5 = .ok (.iconst 1, 1) := by decide +kernel
theorem d_ArrayList_grow_6 : decode Y_ArrayList_grow.2.1 6 = .ok (.iadd, 1) := by decide +kernel
theorem d_ArrayList_grow_7 : decode Y_ArrayList_grow.2.1 7 = .ok (.invokevirtual 69, 3) := by decide +kernel
theorem d_ArrayList_grow_10 : decode Y_ArrayList_grow.2.1 10 = .ok (.areturn, 1) := by decide +kernel
theorem d_ArrayList_grow2_0 : decode Y_ArrayList_grow2.2.1 0 = .ok (.aload_n 0, 1) := by decide +kernel
theorem d_ArrayList_grow2_1 : decode Y_ArrayList_grow2.2.1 1 = .ok (.getfield 9, 3) := by decide +kernel
theorem d_ArrayList_grow2_4 : decode Y_ArrayList_grow2.2.1 4 = .ok (.arraylength, 1) := by decide +kernel
theorem d_ArrayList_grow2_5 : decode Y_ArrayList_grow2.2.1 5 = .ok (.istore_n 2, 1) := by decide +kernel
theorem d_ArrayList_grow2_6 : decode Y_ArrayList_grow2.2.1 6 = .ok (.iload_n 2, 1) := by decide +kernel
theorem d_ArrayList_grow2_7 : decode Y_ArrayList_grow2.2.1 7 = .ok (.ifCond .gt 13, 3) := by decide +kernel
theorem d_ArrayList_grow2_10 : decode Y_ArrayList_grow2.2.1 10 = .ok (.aload_n 0, 1) := by decide +kernel
theorem d_ArrayList_grow2_11 : decode Y_ArrayList_grow2.2.1 11 = .ok (.getfield 9, 3) := by decide +kernel
theorem d_ArrayList_grow2_14 : decode Y_ArrayList_grow2.2.1 14 = .ok (.getstatic 39, 3) := by decide +kernel
theorem d_ArrayList_grow2_17 : decode Y_ArrayList_grow2.2.1 17 = .ok (.if_acmp .eq 28, 3) := by decide +kernel
theorem d_ArrayList_grow2_20 : decode Y_ArrayList_grow2.2.1 20 = .ok (.iload_n 2, 1) := by decide +kernel
theorem d_ArrayList_grow2_21 : decode Y_ArrayList_grow2.2.1 21 = .ok (.iload_n 1, 1) := by decide +kernel
theorem d_ArrayList_grow2_22 : decode Y_ArrayList_grow2.2.1 22 = .ok (.iload_n 2, 1) := by decide +kernel
theorem d_ArrayList_grow2_23 : decode Y_ArrayList_grow2.2.1 23 = .ok (.isub, 1) := by decide +kernel
theorem d_ArrayList_grow2_24 : decode Y_ArrayList_grow2.2.1 24 = .ok (.iload_n 2, 1) := by decide +kernel
theorem d_ArrayList_grow2_25 : decode Y_ArrayList_grow2.2.1 25 = .ok (.iconst 1, 1) := by decide +kernel
theorem d_ArrayList_grow2_26 : decode Y_ArrayList_grow2.2.1 26 = .ok (.ishr, 1) := by decide +kernel
theorem d_ArrayList_grow2_27 : decode Y_ArrayList_grow2.2.1 27 = .ok (.invokestatic 73, 3) := by decide +kernel
theorem d_ArrayList_grow2_30 : decode Y_ArrayList_grow2.2.1 30 = .ok (.istore_n 3, 1) := by decide +kernel
theorem d_ArrayList_grow2_31 : decode Y_ArrayList_grow2.2.1 31 = .ok (.aload_n 0, 1) := by decide +kernel
theorem d_ArrayList_grow2_32 : decode Y_ArrayList_grow2.2.1 32 = .ok (.aload_n 0, 1) := by decide +kernel
theorem d_ArrayList_grow2_33 : decode Y_ArrayList_grow2.2.1 33 = .ok (.getfield 9, 3) := by decide +kernel
theorem d_ArrayList_grow2_36 : decode Y_ArrayList_grow2.2.1 36 = .ok (.iload_n 3, 1) := by decide +kernel
theorem d_ArrayList_grow2_37 : decode Y_ArrayList_grow2.2.1 37 = .ok (.invokestatic 66, 3) := by decide +kernel
theorem d_ArrayList_grow2_40 : decode Y_ArrayList_grow2.2.1 40 = .ok (.dup_x1, 1) := by decide +kernel
theorem d_ArrayList_grow2_41 : decode Y_ArrayList_grow2.2.1 41 = .ok (.putfield 9, 3) := by decide +kernel
theorem d_ArrayList_grow2_44 : decode Y_ArrayList_grow2.2.1 44 = .ok (.areturn, 1) := by decide +kernel
theorem d_ArrayList_grow2_45 : decode Y_ArrayList_grow2.2.1 45 = .ok (.aload_n 0, 1) := by decide +kernel
theorem d_ArrayList_grow2_46 : decode Y_ArrayList_grow2.2.1 46 = .ok (.bipush 10, 2) := by decide +kernel
theorem d_ArrayList_grow2_48 : decode Y_ArrayList_grow2.2.1 48 = .ok (.iload_n 1, 1) := by decide +kernel
theorem d_ArrayList_grow2_49 : decode Y_ArrayList_grow2.2.1 49 = .ok (.invokestatic 79, 3) := by decide +kernel
theorem d_ArrayList_grow2_52 : decode Y_ArrayList_grow2.2.1 52 = .ok (.anewarray 7, 3) := by decide +kernel
theorem d_ArrayList_grow2_55 : decode Y_ArrayList_grow2.2.1 55 = .ok (.dup_x1, 1) := by decide +kernel
theorem d_ArrayList_grow2_56 : decode Y_ArrayList_grow2.2.1 56 = .ok (.putfield 9, 3) := by decide +kernel
theorem d_ArrayList_grow2_59 : decode Y_ArrayList_grow2.2.1 59 = .ok (.areturn, 1) := by decide +kernel
theorem d_ArraysSupport_newLength_0 : decode Y_ArraysSupport_newLength.2.1 0 = .ok (.iload_n 0, 1) := by decide +kernel
theorem d_ArraysSupport_newLength_1 : decode Y_ArraysSupport_newLength.2.1 1 = .ok (.iload_n 1, 1) := by decide +kernel
theorem d_ArraysSupport_newLength_2 : decode Y_ArraysSupport_newLength.2.1 2 = .ok (.iload_n 2, 1) := by decide +kernel
theorem d_ArraysSupport_newLength_3 : decode Y_ArraysSupport_newLength.2.1 3 = .ok (.invokestatic 194, 3) := by decide +kernel
theorem d_ArraysSupport_newLength_6 : decode Y_ArraysSupport_newLength.2.1 6 = .ok (.iadd, 1) := by decide +kernel
theorem d_ArraysSupport_newLength_7 : decode Y_ArraysSupport_newLength.2.1 7 = .ok (.istore_n 3, 1) := by decide +kernel
theorem d_ArraysSupport_newLength_8 : decode Y_ArraysSupport_newLength.2.1 8 = .ok (.iconst 0, 1) := by decide +kernel
theorem d_ArraysSupport_newLength_9 : decode Y_ArraysSupport_newLength.2.1 9 = .ok (.iload_n 3, 1) := by decide +kernel
theorem d_ArraysSupport_newLength_10 : decode Y_ArraysSupport_newLength.2.1 10 = .ok (.if_icmp .ge 11, 3) := by decide +kernel
theorem d_ArraysSupport_newLength_13 : decode Y_ArraysSupport_newLength.2.1 13 = .ok (.iload_n 3, 1) := by decide +kernel
theorem d_ArraysSupport_newLength_14 : decode Y_ArraysSupport_newLength.2.1 14 = .ok (.ldc 200, 2) := by decide +kernel
theorem d_ArraysSupport_newLength_16 : decode Y_ArraysSupport_newLength.2.1 16 = .ok (.if_icmp .gt 5, 3) := by decide +kernel
theorem d_ArraysSupport_newLength_19 : decode Y_ArraysSupport_newLength.2.1 19 = .ok (.iload_n 3, 1) := by decide +kernel
theorem d_ArraysSupport_newLength_20 : decode Y_ArraysSupport_newLength.2.1 20 = .ok (.ireturn, 1) := by decide +kernel
theorem d_ArraysSupport_newLength_21 : decode Y_ArraysSupport_newLength.2.1 21 = .ok (.iload_n 0, 1) := by decide +kernel
theorem d_ArraysSupport_newLength_22 : decode Y_ArraysSupport_newLength.2.1 22 = .ok (.iload_n 1, 1) := by decide +kernel
theorem d_ArraysSupport_newLength_23 : decode Y_ArraysSupport_newLength.2.1 23 = .ok (.invokestatic 201, 3) := by decide +kernel
theorem d_ArraysSupport_newLength_26 : decode Y_ArraysSupport_newLength.2.1 26 = .ok (.ireturn, 1) := by decide +kernel
theorem d_Arrays_copyOf_0 : decode Y_Arrays_copyOf.2.1 0 = .ok (.aload_n 0, 1) := by decide +kernel
theorem d_Arrays_copyOf_1 : decode Y_Arrays_copyOf.2.1 1 = .ok (.iload_n 1, 1) := by decide +kernel
theorem d_Arrays_copyOf_2 : decode Y_Arrays_copyOf.2.1 2 = .ok (.aload_n 0, 1) := by decide +kernel
theorem d_Arrays_copyOf_3 : decode Y_Arrays_copyOf.2.1 3 = .ok (.invokevirtual 86, 3) := by decide +kernel
theorem d_Arrays_copyOf_6 : decode Y_Arrays_copyOf.2.1 6 = .ok (.invokestatic 300, 3) := by decide +kernel
theorem d_Arrays_copyOf_9 : decode Y_Arrays_copyOf.2.1 9 = .ok (.areturn, 1) := by decide +kernel
theorem d_Arrays_copyOf2_0 : decode Y_Arrays_copyOf2.2.1 0 = .ok (.aload_n 2, 1) := by decide +kernel
theorem d_Arrays_copyOf2_1 : decode Y_Arrays_copyOf2.2.1 1 = .ok (.ldc 110, 2) := by decide +kernel
theorem d_Arrays_copyOf2_3 : decode Y_Arrays_copyOf2.2.1 3 = .ok (.if_acmp .ne 10, 3) := by decide +kernel
theorem d_Arrays_copyOf2_6 : decode Y_Arrays_copyOf2.2.1 6 = .ok (.iload_n 1, 1) := by decide +kernel
theorem d_Arrays_copyOf2_7 : decode Y_Arrays_copyOf2.2.1 7 = .ok (.anewarray 2, 3) := by decide +kernel
theorem d_Arrays_copyOf2_10 : decode Y_Arrays_copyOf2.2.1 10 = .ok (.goto 14, 3) := by decide +kernel
theorem d_Arrays_copyOf2_13 : decode Y_Arrays_copyOf2.2.1 13 = .ok (.aload_n 2, 1) := by decide +kernel
theorem d_Arrays_copyOf2_14 : decode Y_Arrays_copyOf2.2.1 14 = .ok (.invokevirtual 90, 3) := by decide +kernel
theorem d_Arrays_copyOf2_17 : decode Y_Arrays_copyOf2.2.1 17 = .ok (.iload_n 1, 1) := by decide +kernel
theorem d_Arrays_copyOf2_18 : decode Y_Arrays_copyOf2.2.1 18 = .ok (.invokestatic 95, 3) := by decide +kernel
theorem d_Arrays_copyOf2_21 : decode Y_Arrays_copyOf2.2.1 21 = .ok (.checkcast 110, 3) := by decide +kernel
theorem d_Arrays_copyOf2_24 : decode Y_Arrays_copyOf2.2.1 24 = .ok (.astore_n 3, 1) := by decide +kernel
theorem d_Arrays_copyOf2_25 : decode Y_Arrays_copyOf2.2.1 25 = .ok (.aload_n 0, 1) := by decide +kernel
theorem d_Arrays_copyOf2_26 : decode Y_Arrays_copyOf2.2.1 26 = .ok (.iconst 0, 1) := by decide +kernel
theorem d_Arrays_copyOf2_27 : decode Y_Arrays_copyOf2.2.1 27 = .ok (.aload_n 3, 1) := by decide +kernel
theorem d_Arrays_copyOf2_28 : decode Y_Arrays_copyOf2.2.1 28 = .ok (.iconst 0, 1) := by decide +kernel
theorem d_Arrays_copyOf2_29 : decode Y_Arrays_copyOf2.2.1 29 = .ok (.aload_n 0, 1) := by decide +kernel
theorem d_Arrays_copyOf2_30 : decode Y_Arrays_copyOf2.2.1 30 = .ok (.arraylength, 1) := by decide +kernel
theorem d_Arrays_copyOf2_31 : decode Y_Arrays_copyOf2.2.1 31 = .ok (.iload_n 1, 1) := by decide +kernel
theorem d_Arrays_copyOf2_32 : decode Y_Arrays_copyOf2.2.1 32 = .ok (.invokestatic 304, 3) := by decide +kernel
theorem d_Arrays_copyOf2_35 : decode Y_Arrays_copyOf2.2.1 35 = .ok (.invokestatic 150, 3) := by decide +kernel
theorem d_Arrays_copyOf2_38 : decode Y_Arrays_copyOf2.2.1 38 = .ok (.aload_n 3, 1) := by decide +kernel
theorem d_Arrays_copyOf2_39 : decode Y_Arrays_copyOf2.2.1 39 = .ok (.areturn, 1) := by decide +kernel
theorem d_ArrayList_remove_0 : decode Y_ArrayList_remove.2.1 0 = .ok (.iload_n 1, 1) := by decide +kernel
theorem d_ArrayList_remove_1 : decode Y_ArrayList_remove.2.1 1 = .ok (.aload_n 0, 1) := by decide +kernel
theorem d_ArrayList_remove_2 : decode Y_ArrayList_remove.2.1 2 = .ok (.getfield 48, 3) := by decide +kernel
theorem d_ArrayList_remove_5 : decode Y_ArrayList_remove.2.1 5 = .ok (.invokestatic 118, 3) := by decide +kernel
theorem d_ArrayList_remove_8 : decode Y_ArrayList_remove.2.1 8 = .ok (.pop, 1) := by decide +kernel
theorem d_ArrayList_remove_9 : decode Y_ArrayList_remove.2.1 9 = .ok (.aload_n 0, 1) := by decide +kernel
theorem d_ArrayList_remove_10 : decode Y_ArrayList_remove.2.1 10 = .ok (.getfield 9, 3) := by decide +kernel
theorem d_ArrayList_remove_13 : decode Y_ArrayList_remove.2.1 13 = .ok (.astore_n 2, 1) := by decide +kernel
theorem d_ArrayList_remove_14 : decode Y_ArrayList_remove.2.1 14 = .ok (.aload_n 2, 1) := by decide +kernel
theorem d_ArrayList_remove_15 : decode Y_ArrayList_remove.2.1 15 = .ok (.iload_n 1, 1) := by decide +kernel
theorem d_ArrayList_remove_16 : decode Y_ArrayList_remove.2.1 16 = .ok (.aaload, 1) := by decide +kernel
theorem d_ArrayList_remove_17 : decode Y_ArrayList_remove.2.1 17 = .ok (.astore_n 3, 1) := by decide +kernel
theorem d_ArrayList_remove_18 : decode Y_ArrayList_remove.2.1 18 = .ok (.aload_n 0, 1) := by decide +kernel
theorem d_ArrayList_remove_19 : decode Y_ArrayList_remove.2.1 19 = .ok (.aload_n 2, 1) := by decide +kernel
theorem d_ArrayList_remove_20 : decode Y_ArrayList_remove.2.1 20 = .ok (.iload_n 1, 1) := by decide +kernel
theorem d_ArrayList_remove_21 : decode Y_ArrayList_remove.2.1 21 = .ok (.invokevirtual 144, 3) := by decide +kernel
theorem d_ArrayList_remove_24 : decode Y_ArrayList_remove.2.1 24 = .ok (.aload_n 3, 1) := by decide +kernel
theorem d_ArrayList_remove_25 : decode Y_ArrayList_remove.2.1 25 = .ok (.areturn, 1) := by decide +kernel
theorem d_ArrayList_fastRemove_0 : decode Y_ArrayList_fastRemove.2.1 0 = .ok (.aload_n 0, 1) := by decide +kernel
theorem d_ArrayList_fastRemove_1 : decode Y_ArrayList_fastRemove.2.1 1 = .ok (.dup, 1) := by decide +kernel
theorem d_ArrayList_fastRemove_2 : decode Y_ArrayList_fastRemove.2.1 2 = .ok (.getfield 63, 3) := by decide +kernel
theorem d_ArrayList_fastRemove_5 : decode Y_ArrayList_fastRemove.2.1 5 = .ok (.iconst 1, 1) := by decide +kernel
theorem d_ArrayList_fastRemove_6 : decode Y_ArrayList_fastRemove.2.1 6 = .ok (.iadd, 1) := by decide +kernel
theorem d_ArrayList_fastRemove_7 : decode Y_ArrayList_fastRemove.2.1 7 = .ok (.putfield 63, 3) := by decide +kernel
theorem d_ArrayList_fastRemove_10 : decode Y_ArrayList_fastRemove.2.1 10 = .ok (.aload_n 0, 1) := by decide +kernel
theorem d_ArrayList_fastRemove_11 : decode Y_ArrayList_fastRemove.2.1 11 = .ok (.getfield 48, 3) := by decide +kernel
theorem d_ArrayList_fastRemove_14 : decode Y_ArrayList_fastRemove.2.1 14 = .ok (.iconst 1, 1) := by decide +kernel
theorem d_ArrayList_fastRemove_15 : decode Y_ArrayList_fastRemove.2.1 15 = .ok (.isub, 1) := by decide +kernel
theorem d_ArrayList_fastRemove_16 : decode Y_ArrayList_fastRemove.2.1 16 = .ok (.dup, 1) := by decide +kernel
theorem d_ArrayList_fastRemove_17 : decode Y_ArrayList_fastRemove.2.1 17 = .ok (.istore_n 3, 1) := by decide +kernel
theorem d_ArrayList_fastRemove_18 : decode Y_ArrayList_fastRemove.2.1 18 = .ok (.iload_n 2, 1) := by decide +kernel
theorem d_ArrayList_fastRemove_19 : decode Y_ArrayList_fastRemove.2.1 19 = .ok (.if_icmp .le 15, 3) := by decide +kernel
theorem d_ArrayList_fastRemove_22 : decode Y_ArrayList_fastRemove.2.1 22 = .ok (.aload_n 1, 1) := by decide +kernel
theorem d_ArrayList_fastRemove_23 : decode Y_ArrayList_fastRemove.2.1 23 = .ok (.iload_n 2, 1) := by decide +kernel
theorem d_ArrayList_fastRemove_24 : decode Y_ArrayList_fastRemove.2.1 24 = .ok (.iconst 1, 1) := by decide +kernel
theorem d_ArrayList_fastRemove_25 : decode Y_ArrayList_fastRemove.2.1 25 = .ok (.iadd, 1) := by decide +kernel
theorem d_ArrayList_fastRemove_26 : decode Y_ArrayList_fastRemove.2.1 26 = .ok (.aload_n 1, 1) := by decide +kernel
theorem d_ArrayList_fastRemove_27 : decode Y_ArrayList_fastRemove.2.1 27 = .ok (.iload_n 2, 1) := by decide +kernel
theorem d_ArrayList_fastRemove_28 : decode Y_ArrayList_fastRemove.2.1 28 = .ok (.iload_n 3, 1) := by decide +kernel
theorem d_ArrayList_fastRemove_29 : decode Y_ArrayList_fastRemove.2.1 29 = .ok (.iload_n 2, 1) := by decide +kernel
theorem d_ArrayList_fastRemove_30 : decode Y_ArrayList_fastRemove.2.1 30 = .ok (.isub, 1) := by decide +kernel
theorem d_ArrayList_fastRemove_31 : decode Y_ArrayList_fastRemove.2.1 31 = .ok (.invokestatic 112, 3) := by decide +kernel
theorem d_ArrayList_fastRemove_34 : decode Y_ArrayList_fastRemove.2.1 34 = .ok (.aload_n 1, 1) := by decide +kernel
theorem d_ArrayList_fastRemove_35 : decode Y_ArrayList_fastRemove.2.1 35 = .ok (.aload_n 0, 1) := by decide +kernel
theorem d_ArrayList_fastRemove_36 : decode Y_ArrayList_fastRemove.2.1 36 = .ok (.iload_n 3, 1) := by decide +kernel
theorem d_ArrayList_fastRemove_37 : decode Y_ArrayList_fastRemove.2.1 37 = .ok (.dup_x1, 1) := by decide +kernel
theorem d_ArrayList_fastRemove_38 : decode Y_ArrayList_fastRemove.2.1 38 = .ok (.putfield 48, 3) := by decide +kernel
theorem d_ArrayList_fastRemove_41 : decode Y_ArrayList_fastRemove.2.1 41 = .ok (.aconst_null, 1) := by decide +kernel
theorem d_ArrayList_fastRemove_42 : decode Y_ArrayList_fastRemove.2.1 42 = .ok (.aastore, 1) := by decide +kernel
theorem d_ArrayList_fastRemove_43 : decode Y_ArrayList_fastRemove.2.1 43 = .ok (.return_, 1) := by decide +kernel
theorem d_ArrayList_add3_0 : decode Y_ArrayList_add3.2.1 0 = .ok (.aload_n 0, 1) := by decide +kernel
theorem d_ArrayList_add3_1 : decode Y_ArrayList_add3.2.1 1 = .ok (.iload_n 1, 1) := by decide +kernel
theorem d_ArrayList_add3_2 : decode Y_ArrayList_add3.2.1 2 = .ok (.invokevirtual 135, 3) := by decide +kernel
theorem d_ArrayList_add3_5 : decode Y_ArrayList_add3.2.1 5 = .ok (.aload_n 0, 1) := by decide +kernel
theorem d_ArrayList_add3_6 : decode Y_ArrayList_add3.2.1 6 = .ok (.dup, 1) := by decide +kernel
theorem d_ArrayList_add3_7 : decode Y_ArrayList_add3.2.1 7 = .ok (.getfield 63, 3) := by decide +kernel
theorem d_ArrayList_add3_10 : decode Y_ArrayList_add3.2.1 10 = .ok (.iconst 1, 1) := by decide +kernel
theorem d_ArrayList_add3_11 : decode Y_ArrayList_add3.2.1 11 = .ok (.iadd, 1) := by decide +kernel
theorem d_ArrayList_add3_12 : decode Y_ArrayList_add3.2.1 12 = .ok (.putfield 63, 3) := by decide +kernel
theorem d_ArrayList_add3_15 : decode Y_ArrayList_add3.2.1 15 = .ok (.aload_n 0, 1) := by decide +kernel
theorem d_ArrayList_add3_16 : decode Y_ArrayList_add3.2.1 16 = .ok (.getfield 48, 3) := by decide +kernel
theorem d_ArrayList_add3_19 : decode Y_ArrayList_add3.2.1 19 = .ok (.dup, 1) := by decide +kernel
theorem d_ArrayList_add3_20 : decode Y_ArrayList_add3.2.1 20 = .ok (.istore_n 3, 1) := by decide +kernel
theorem d_ArrayList_add3_21 : decode Y_ArrayList_add3.2.1 21 = .ok (.aload_n 0, 1) := by decide +kernel
theorem d_ArrayList_add3_22 : decode Y_ArrayList_add3.2.1 22 = .ok (.getfield 9, 3) := by decide +kernel
theorem d_ArrayList_add3_25 : decode Y_ArrayList_add3.2.1 25 = .ok (.dup, 1) := by decide +kernel
theorem d_ArrayList_add3_26 : decode Y_ArrayList_add3.2.1 26 = .ok (.astore 4, 2) := by decide +kernel
theorem d_ArrayList_add3_28 : decode Y_ArrayList_add3.2.1 28 = .ok (.arraylength, 1) := by decide +kernel
theorem d_ArrayList_add3_29 : decode Y_ArrayList_add3.2.1 29 = .ok (.if_icmp .ne 9, 3) := by decide +kernel
theorem d_ArrayList_add3_32 : decode Y_ArrayList_add3.2.1 32 = .ok (.aload_n 0, 1) := by decide +kernel
theorem d_ArrayList_add3_33 : decode Y_ArrayList_add3.2.1 33 = .ok (.invokevirtual 129, 3) := by decide +kernel
theorem d_ArrayList_add3_36 : decode Y_ArrayList_add3.2.1 36 = .ok (.astore 4, 2) := by decide +kernel
theorem d_ArrayList_add3_38 : decode Y_ArrayList_add3.2.1 38 = .ok (.aload 4, 2) := by decide +kernel
theorem d_ArrayList_add3_40 : decode Y_ArrayList_add3.2.1 40 = .ok (.iload_n 1, 1) := by decide +kernel
theorem d_ArrayList_add3_41 : decode Y_ArrayList_add3.2.1 41 = .ok (.aload 4, 2) := by decide +kernel
theorem d_ArrayList_add3_43 : decode Y_ArrayList_add3.2.1 43 = .ok (.iload_n 1, 1) := by decide +kernel
theorem d_ArrayList_add3_44 : decode Y_ArrayList_add3.2.1 44 = .ok (.iconst 1, 1) := by decide +kernel
theorem d_ArrayList_add3_45 : decode Y_ArrayList_add3.2.1 45 = .ok (.iadd, 1) := by decide +kernel
theorem d_ArrayList_add3_46 : decode Y_ArrayList_add3.2.1 46 = .ok (.iload_n 3, 1) := by decide +kernel
theorem d_ArrayList_add3_47 : decode Y_ArrayList_add3.2.1 47 = .ok (.iload_n 1, 1) := by decide +kernel
theorem d_ArrayList_add3_48 : decode Y_ArrayList_add3.2.1 48 = .ok (.isub, 1) := by decide +kernel
theorem d_ArrayList_add3_49 : decode Y_ArrayList_add3.2.1 49 = .ok (.invokestatic 112, 3) := by decide +kernel
theorem d_ArrayList_add3_52 : decode Y_ArrayList_add3.2.1 52 = .ok (.aload 4, 2) := by decide +kernel
theorem d_ArrayList_add3_54 : decode Y_ArrayList_add3.2.1 54 = .ok (.iload_n 1, 1) := by decide +kernel
theorem d_ArrayList_add3_55 : decode Y_ArrayList_add3.2.1 55 = .ok (.aload_n 2, 1) := by decide +kernel
theorem d_ArrayList_add3_56 : decode Y_ArrayList_add3.2.1 56 = .ok (.aastore, 1) := by decide +kernel
theorem d_ArrayList_add3_57 : decode Y_ArrayList_add3.2.1 57 = .ok (.aload_n 0, 1) := by decide +kernel
theorem d_ArrayList_add3_58 : decode Y_ArrayList_add3.2.1 58 = .ok (.iload_n 3, 1) := by decide +kernel
theorem d_ArrayList_add3_59 : decode Y_ArrayList_add3.2.1 59 = .ok (.iconst 1, 1) := by decide +kernel
theorem d_ArrayList_add3_60 : decode Y_ArrayList_add3.2.1 60 = .ok (.iadd, 1) := by decide +kernel
theorem d_ArrayList_add3_61 : decode Y_ArrayList_add3.2.1 61 = .ok (.putfield 48, 3) := by decide +kernel
theorem d_ArrayList_add3_64 : decode Y_ArrayList_add3.2.1 64 = .ok (.return_, 1) := by decide +kernel
theorem d_ArrayList_rangeCheckForAdd_0 : decode Y_ArrayList_rangeCheckForAdd.2.1 0 = .ok (.iload_n 1, 1) := by decide +kernel
theorem d_ArrayList_rangeCheckForAdd_1 : decode Y_ArrayList_rangeCheckForAdd.2.1 1 = .ok (.aload_n 0, 1) := by decide +kernel
theorem d_ArrayList_rangeCheckForAdd_2 : decode Y_ArrayList_rangeCheckForAdd.2.1 2 = .ok (.getfield 48, 3) := by decide +kernel
theorem d_ArrayList_rangeCheckForAdd_5 : decode Y_ArrayList_rangeCheckForAdd.2.1 5 = .ok (.if_icmp .gt 7, 3) := by decide +kernel
theorem d_ArrayList_rangeCheckForAdd_8 : decode Y_ArrayList_rangeCheckForAdd.2.1 8 = .ok (.iload_n 1, 1) := by decide +kernel
theorem d_ArrayList_rangeCheckForAdd_9 : decode Y_ArrayList_rangeCheckForAdd.2.1 9 = .ok (.ifCond .ge 16, 3) := by decide +kernel
theorem d_ArrayList_rangeCheckForAdd_12 : decode Y_ArrayList_rangeCheckForAdd.2.1 12 = .ok (.new 187, 3) := by decide +kernel
theorem d_ArrayList_rangeCheckForAdd_15 : decode Y_ArrayList_rangeCheckForAdd.2.1 15 = .ok (.dup, 1) := by decide +kernel
theorem d_ArrayList_rangeCheckForAdd_16 : decode Y_ArrayList_rangeCheckForAdd.2.1 16 = .ok (.aload_n 0, 1) := by decide +kernel
theorem d_ArrayList_rangeCheckForAdd_17 : decode Y_ArrayList_rangeCheckForAdd.2.1 17 = .ok (.iload_n 1, 1) := by decide +kernel
theorem d_ArrayList_rangeCheckForAdd_18 : decode Y_ArrayList_rangeCheckForAdd.2.1 18 = .ok (.invokevirtual 198, 3) := by decide +kernel
theorem d_ArrayList_rangeCheckForAdd_21 : decode Y_ArrayList_rangeCheckForAdd.2.1 21 = .ok (.invokespecial 193, 3) := by decide +kernel
theorem d_ArrayList_rangeCheckForAdd_24 : decode Y_ArrayList_rangeCheckForAdd.2.1 24 = .ok (.athrow, 1) := by decide +kernel
theorem d_ArrayList_rangeCheckForAdd_25 : decode Y_ArrayList_rangeCheckForAdd.2.1 25 = .ok (.return_, 1) := by decide +kernel
/-- a list of the class: its cell k, the numbers im (changes) and is (size), its array D -/
def lK (k im is D : Nat) : Prop := k < 24 ∧ im ≠ is ∧ zA (9 + D) ∧ (∀ (E : gE) (a : Nat) (c : cS), xC E a c k = .inr (0, [.int (c.1 im), .ref (c.2.2.2 D), .int (c.1 is)])) ∧ (∀ (E : gE) (a : Nat) (c : cS) (x : Int32) (i : Nat), i < 24 → i ≠ k → xC E a (cF c im x) i = xC E a c i) ∧ (∀ (E : gE) (a : Nat) (c : cS) (x : Int32) (i : Nat), i < 24 → i ≠ k → xC E a (cF c is x) i = xC E a c i) ∧ ∀ (E : gE) (a : Nat) (c : cS) (x i : Nat), i < 24 → i ≠ k → xC E a (cD c D x) i = xC E a c i
theorem lk_rows : lK 14 14 15 0 := ⟨by decide, by decide, za_9, fun _ _ _ => rfl, fun _ _ _ _ => xf_F14, fun _ _ _ _ => xf_F15, fun _ _ _ _ => xf_D0⟩
theorem lk_places : lK 16 17 18 1 := ⟨by decide, by decide, za_10, fun _ _ _ => rfl, fun _ _ _ _ => xf_F17, fun _ _ _ _ => xf_F18, fun _ _ _ _ => xf_D1⟩
theorem lk_quests : lK 17 19 20 2 := ⟨by decide, by decide, za_11, fun _ _ _ => rfl, fun _ _ _ _ => xf_F19, fun _ _ _ _ => xf_F20, fun _ _ _ _ => xf_D2⟩
theorem lk_met : lK 23 22 23 3 := ⟨by decide, by decide, za_12, fun _ _ _ => rfl, fun _ _ _ _ => xf_F22, fun _ _ _ _ => xf_F23, fun _ _ _ _ => xf_D3⟩
section AL
variable {E : gE} {d : Nat} {G G0 : gS} {a : Nat} {c c' : cS} {u u' : uS} {n sl : Nat} {Y : gY} {Q : gO → gS → Prop} {pc : Nat} {lv : List (Nat × Value)} {rest : List Value} {k im is D : Nat}
theorem lC_im (hL : lK k im is D) {x : Int32} : xC E a (cF c im x) k = .inr (0, [.int x, .ref (c.2.2.2 D), .int (c.1 is)]) := by
  rw [hL.2.2.2.1]
  simp only [cF, upd, if_true, if_neg (Ne.symm hL.2.1)]
theorem lC_is (hL : lK k im is D) {x : Int32} : xC E a (cF c is x) k = .inr (0, [.int (c.1 im), .ref (c.2.2.2 D), .int x]) := by
  rw [hL.2.2.2.1]
  simp only [cF, upd, if_true, if_neg hL.2.1]
theorem lC_D (hL : lK k im is D) {x : Nat} : xC E a (cD c D x) k = .inr (0, [.int (c.1 im), .ref x, .int (c.1 is)]) := by
  rw [hL.2.2.2.1]
  simp only [cD, upN, if_true]
theorem l_get {index j : Nat} {v : Value} (hL : lK k im is D) (hf : gFld Y.1.cls index T_ArrayList j) (hj : j < 3) (hv : [Value.int (c.1 im), .ref (c.2.2.2 D), .int (c.1 is)][j]? = some v) (hdg : decode Y.2.1 pc = .ok (.getfield index, 3)) (kk : GT E Y d G0 (pc + 3) lv (v :: rest) (yW E G a c u n sl) Q) : GT E Y d G0 pc lv (.ref (a + k) :: rest) (yW E G a c u n sl) Q :=
  x_get kc_ArrayList hf hj hL.1 (hL.2.2.2.1 E a c) hv hdg kk
theorem l_im {index : Nat} {x : Int32} (hL : lK k im is D) (hf : gFld Y.1.cls index T_ArrayList 0) (hdg : decode Y.2.1 pc = .ok (.putfield index, 3)) (kk : GT E Y d G0 (pc + 3) lv rest (yW E G a (cF c im x) u n sl) Q) : GT E Y d G0 pc lv (.int x :: .ref (a + k) :: rest) (yW E G a c u n sl) Q :=
  x_put kc_ArrayList hf (by decide) hL.1 (hL.2.2.2.1 E a c) rfl rfl rfl (Nat.le_of_ble_eq_true rfl) rfl (lC_im hL) (hL.2.2.2.2.1 E a c x) hdg kk
theorem l_is {index : Nat} {x : Int32} (hL : lK k im is D) (hf : gFld Y.1.cls index T_ArrayList 2) (hdg : decode Y.2.1 pc = .ok (.putfield index, 3)) (kk : GT E Y d G0 (pc + 3) lv rest (yW E G a (cF c is x) u n sl) Q) : GT E Y d G0 pc lv (.int x :: .ref (a + k) :: rest) (yW E G a c u n sl) Q :=
  x_put kc_ArrayList hf (by decide) hL.1 (hL.2.2.2.1 E a c) rfl rfl rfl (Nat.le_of_ble_eq_true rfl) rfl (lC_is hL) (hL.2.2.2.2.2.1 E a c x) hdg kk
theorem l_D {index x : Nat} (hL : lK k im is D) (hf : gFld Y.1.cls index T_ArrayList 1) (hdg : decode Y.2.1 pc = .ok (.putfield index, 3)) (kk : GT E Y d G0 (pc + 3) lv rest (yW E G a (cD c D x) u n sl) Q) : GT E Y d G0 pc lv (.ref x :: .ref (a + k) :: rest) (yW E G a c u n sl) Q :=
  x_put kc_ArrayList hf (by decide) hL.1 (hL.2.2.2.1 E a c) rfl rfl rfl (Nat.le_of_ble_eq_true rfl) rfl (lC_D hL) (hL.2.2.2.2.2.2 E a c x) hdg kk
theorem l_at (hL : lK k im is D) : (yW E G a c u n sl).1 (a + k) = some (.inr (0, [.int (c.1 im), .ref (c.2.2.2 D), .int (c.1 is)])) := x_at hL.1 (hL.2.2.2.1 E a c)
set_option maxHeartbeats 400000 in
set_option maxRecDepth 100000 in
theorem m_check0 {i m : Int32} (h0 : ¬ i < 0) (h1 : i < m) : GM E Y_Preconditions_checkIndex d [.int i, .int m, .null] G (rIs (some (.int i)) G) := by
  refine g_entry (by decide) (by simp [Value.category]) (Nat.le_of_ble_eq_true rfl) ?_
  refine g_iload_n d_Preconditions_checkIndex_0 rfl ?_
  refine g_if_lt (tgt := 9) d_Preconditions_checkIndex_1 (by decide) (fun c_1 => ?_) (fun c_1 => ?_)
  · exact absurd c_1 h0
  refine g_iload_n d_Preconditions_checkIndex_4 rfl ?_
  refine g_iload_n d_Preconditions_checkIndex_5 rfl ?_
  refine g_icmp_lt (tgt := 16) d_Preconditions_checkIndex_6 (by decide) (fun c_6 => ?_) (fun c_6 => ?_)
  rotate_left
  · exact absurd c_6 (fun q => q h1)
  refine g_iload_n d_Preconditions_checkIndex_16 rfl ?_
  refine g_iret rfl d_Preconditions_checkIndex_17 ?_
  exact ⟨rfl, rfl⟩
set_option maxHeartbeats 400000 in
set_option maxRecDepth 100000 in
theorem m_check {i m : Int32} (h0 : ¬ i < 0) (h1 : i < m) : GM E Y_Objects_checkIndex (d + 1) [.int i, .int m] G (rIs (some (.int i)) G) := by
  refine g_entry (by decide) (by simp [Value.category]) (Nat.le_of_ble_eq_true rfl) ?_
  refine g_iload_n d_Objects_checkIndex_0 rfl ?_
  refine g_iload_n d_Objects_checkIndex_1 rfl ?_
  refine g_null d_Objects_checkIndex_2 ?_
  refine c_Sr (as := [.int (i), .int (m), .null]) ks_Preconditions_checkIndex ml_Objects_105 (m_check0 h0 h1) rfl (Nat.le_of_ble_eq_true rfl) rfl d_Objects_checkIndex_3 rfl ?_
  refine g_iret rfl d_Objects_checkIndex_6 ?_
  exact ⟨rfl, rfl⟩
set_option maxHeartbeats 400000 in
set_option maxRecDepth 100000 in
theorem m_L_size (hL : lK k im is D) : GM E Y_ArrayList_size d [.ref (a + k)] (yW E G a c u n sl) (rIs (some (.int (c.1 is))) (yW E G a c u n sl)) := by
  refine g_entry (by decide) (by simp [Value.category]) (Nat.le_of_ble_eq_true rfl) ?_
  refine g_aload_n d_ArrayList_size_0 rfl ?_
  refine l_get (j := 2) (v := .int (c.1 is)) hL fl_ArrayList_48 (by decide) rfl d_ArrayList_size_1 ?_
  refine g_iret rfl d_ArrayList_size_4 ?_
  exact ⟨rfl, rfl⟩
set_option maxHeartbeats 400000 in
set_option maxRecDepth 100000 in
theorem m_L_elem (hL : lK k im is D) {i : Int32} {j b : Nat} (hz : zIs u a (c.2.2.2 D) (9 + D)) (hi : i.toInt = (j : Int)) (hj : j < u.2.1 (c.2.2.2 D)) (hb : u.2.2.2 (c.2.2.2 D) j = some b) : GM E Y_ArrayList_elementData d [.ref (a + k), .int i] (yW E G a c u n sl) (rIs (some (.ref b)) (yW E G a c u n sl)) := by
  refine g_entry (by decide) (by simp [Value.category]) (Nat.le_of_ble_eq_true rfl) ?_
  refine g_aload_n d_ArrayList_elementData_0 rfl ?_
  refine l_get (j := 1) (v := .ref (c.2.2.2 D)) hL fl_ArrayList_9 (by decide) rfl d_ArrayList_elementData_1 ?_
  refine g_iload_n d_ArrayList_elementData_4 rfl ?_
  refine z_oald hL.2.2.1 hz hi hj hb d_ArrayList_elementData_5 ?_
  refine g_aret rfl (by first | exact Or.inl ⟨_, rfl⟩ | exact Or.inr ⟨_, rfl⟩) (by first | exact Or.inl rfl | exact Or.inr ⟨_, rfl⟩) d_ArrayList_elementData_6 ?_
  exact ⟨rfl, rfl⟩
set_option maxHeartbeats 400000 in
set_option maxRecDepth 100000 in
theorem m_L_get (hL : lK k im is D) {i : Int32} {j b : Nat} (hz : zIs u a (c.2.2.2 D) (9 + D)) (hi : i.toInt = (j : Int)) (hj : j < u.2.1 (c.2.2.2 D)) (hb : u.2.2.2 (c.2.2.2 D) j = some b) (hs : i < c.1 is) : GM E Y_ArrayList_get (d + 2) [.ref (a + k), .int i] (yW E G a c u n sl) (rIs (some (.ref b)) (yW E G a c u n sl)) := by
  refine g_entry (by decide) (by simp [Value.category]) (Nat.le_of_ble_eq_true rfl) ?_
  refine g_iload_n d_ArrayList_get_0 rfl ?_
  refine g_aload_n d_ArrayList_get_1 rfl ?_
  refine l_get (j := 2) (v := .int (c.1 is)) hL fl_ArrayList_48 (by decide) rfl d_ArrayList_get_2 ?_
  refine c_Sr (as := [.int (i), .int (c.1 is)]) ks_Objects_checkIndex ml_ArrayList_118 (m_check (by rw [Int32.lt_iff_toInt_lt, hi, Int32.toInt_zero]; omega) hs) rfl (Nat.le_of_ble_eq_true rfl) rfl d_ArrayList_get_5 rfl ?_
  refine g_pop d_ArrayList_get_8 rfl ?_
  refine g_aload_n d_ArrayList_get_9 rfl ?_
  refine g_iload_n d_ArrayList_get_10 rfl ?_
  refine c_Vr (as := [.int (i)]) kv_ArrayList_elementData ml_ArrayList_123 rfl (l_at hL) (m_L_elem hL hz hi hj hb) rfl (Nat.le_of_ble_eq_true rfl) rfl d_ArrayList_get_11 rfl ?_
  refine g_aret rfl (by first | exact Or.inl ⟨_, rfl⟩ | exact Or.inr ⟨_, rfl⟩) (by first | exact Or.inl rfl | exact Or.inr ⟨_, rfl⟩) d_ArrayList_get_14 ?_
  exact ⟨rfl, rfl⟩
set_option maxHeartbeats 400000 in
set_option maxRecDepth 100000 in
theorem m_L_set (hL : lK k im is D) {i : Int32} {j b : Nat} (hz : zIs u a (c.2.2.2 D) (9 + D)) (hi : i.toInt = (j : Int)) (hj : j < u.2.1 (c.2.2.2 D)) (hb : u.2.2.2 (c.2.2.2 D) j = some b) (hs : i < c.1 is) {x kb : Nat} (hv : zIs u a x kb) (hk : kb = 1 ∨ kb = 5 ∨ kb = 6 ∨ kb = 7) : GM E Y_ArrayList_set (d + 2) [.ref (a + k), .int i, .ref x] (yW E G a c u n sl) (rIs (some (.ref b)) (yW E G a c (uT u (c.2.2.2 D) j (some x)) n sl)) := by
  refine g_entry (by decide) (by simp [Value.category]) (Nat.le_of_ble_eq_true rfl) ?_
  refine g_iload_n d_ArrayList_set_0 rfl ?_
  refine g_aload_n d_ArrayList_set_1 rfl ?_
  refine l_get (j := 2) (v := .int (c.1 is)) hL fl_ArrayList_48 (by decide) rfl d_ArrayList_set_2 ?_
  refine c_Sr (as := [.int (i), .int (c.1 is)]) ks_Objects_checkIndex ml_ArrayList_118 (m_check (by rw [Int32.lt_iff_toInt_lt, hi, Int32.toInt_zero]; omega) hs) rfl (Nat.le_of_ble_eq_true rfl) rfl d_ArrayList_set_5 rfl ?_
  refine g_pop d_ArrayList_set_8 rfl ?_
  refine g_aload_n d_ArrayList_set_9 rfl ?_
  refine g_iload_n d_ArrayList_set_10 rfl ?_
  refine c_Vr (as := [.int (i)]) kv_ArrayList_elementData ml_ArrayList_123 rfl (l_at hL) (m_L_elem hL hz hi hj hb) rfl (Nat.le_of_ble_eq_true rfl) rfl d_ArrayList_set_11 rfl ?_
  refine g_astore_n d_ArrayList_set_14 (by decide) rfl ?_
  refine g_aload_n d_ArrayList_set_15 rfl ?_
  refine l_get (j := 1) (v := .ref (c.2.2.2 D)) hL fl_ArrayList_9 (by decide) rfl d_ArrayList_set_16 ?_
  refine g_iload_n d_ArrayList_set_19 rfl ?_
  refine g_aload_n d_ArrayList_set_20 rfl ?_
  refine z_oast hL.2.2.1 hz hi hj hv hk d_ArrayList_set_21 ?_
  refine g_aload_n d_ArrayList_set_22 rfl ?_
  refine g_aret rfl (by first | exact Or.inl ⟨_, rfl⟩ | exact Or.inr ⟨_, rfl⟩) (by first | exact Or.inl rfl | exact Or.inr ⟨_, rfl⟩) d_ArrayList_set_23 ?_
  exact ⟨rfl, rfl⟩
theorem up0 {f : Nat → Int32} : True := trivial
theorem sum_pos {x : Int32} {k : Nat} (h : x.toInt = (k : Int)) (hk : 0 < k) : ¬ x ≤ 0 := fun q => by
  rw [Int32.le_iff_toInt_le, h, Int32.toInt_zero] at q
  omega
set_option maxHeartbeats 400000 in
set_option maxRecDepth 100000 in
theorem m_newLength {x y z : Int32} {m : Nat} (hm : (x + (if y < z then z else y)).toInt = (m : Int)) (h0 : 0 < m) (h1 : m ≤ 2147483639) : GM E Y_ArraysSupport_newLength (d + 1) [.int x, .int y, .int z] G (rIs (some (.int (x + (if y < z then z else y)))) G) := by
  refine g_entry (by decide) (by simp [Value.category]) (Nat.le_of_ble_eq_true rfl) ?_
  refine g_iload_n d_ArraysSupport_newLength_0 rfl ?_
  refine g_iload_n d_ArraysSupport_newLength_1 rfl ?_
  refine g_iload_n d_ArraysSupport_newLength_2 rfl ?_
  refine c_Sr (as := [.int (y), .int (z)]) ks_Math_max ml_ArraysSupport_194 (m_Math_max y z) rfl (Nat.le_of_ble_eq_true rfl) rfl d_ArraysSupport_newLength_3 rfl ?_
  refine g_iadd d_ArraysSupport_newLength_6 ?_
  refine g_istore_n d_ArraysSupport_newLength_7 (by decide) rfl ?_
  refine g_iconst (v := 0) d_ArraysSupport_newLength_8 (by decide) ?_
  refine g_iload_n d_ArraysSupport_newLength_9 rfl ?_
  refine g_icmp_ge (tgt := 21) d_ArraysSupport_newLength_10 (by decide) (fun c_10 => ?_) (fun c_10 => ?_)
  · exact absurd c_10 (sum_pos hm h0)
  refine g_iload_n d_ArraysSupport_newLength_13 rfl ?_
  refine g_ldc cn_ArraysSupport_200 d_ArraysSupport_newLength_14 ?_
  refine g_icmp_gt (tgt := 21) d_ArraysSupport_newLength_16 (by decide) (fun c_16 => ?_) (fun c_16 => ?_)
  · exact absurd c_16 (by rw [Int32.lt_iff_toInt_lt, hm]; show ¬ (2147483639 : Int) < _; omega)
  refine g_iload_n d_ArraysSupport_newLength_19 rfl ?_
  refine g_iret rfl d_ArraysSupport_newLength_20 ?_
  exact ⟨rfl, rfl⟩
/-- a longer array with what was in q0 -/
def uG (u : uS) (n q0 k N M : Nat) : uS := uTr (uN u n k N (fun _ => 0) (fun _ => none)) n (va_cpy (u.2.2.2 q0) (fun _ => none) 0 0 M)
theorem uG_eq {q0 N M : Nat} (h : q0 ≠ n) : uTr (uN u n k N (fun _ => 0) (fun _ => none)) n (va_cpy ((uN u n k N (fun _ => 0) (fun _ => none)).2.2.2 q0) ((uN u n k N (fun _ => 0) (fun _ => none)).2.2.2 n) 0 0 M) = uG u n q0 k N M := by
  have e1 : (uN u n k N (fun _ => 0) (fun _ => none)).2.2.2 q0 = u.2.2.2 q0 := upT_ne h
  have e2 : (uN u n k N (fun _ => 0) (fun _ => none)).2.2.2 n = fun _ => none := upT_at
  rw [e1, e2]
  rfl
set_option maxHeartbeats 400000 in
set_option maxRecDepth 100000 in
theorem m_copyOf2 (hL : lK k im is D) {q0 N M : Nat} {m : Int32} (hz : zIs u a q0 (9 + D)) (hq : q0 < n) (ha : a + 24 ≤ n) (hm : m.toInt = (N : Int)) (hM : u.2.1 q0 = M) (hMN : M ≤ N) (hN : N ≤ 100000) {kb : Nat} (hk : kb = 1 ∨ kb = 5 ∨ kb = 6 ∨ kb = 7) (hel : ∀ i, i < M → ∀ y, u.2.2.2 q0 i = some y → zIs u a y kb ∧ y < n) (hc : n + 1 ≤ E.1.heap.size + room_1.cells) (hs : sl + N ≤ room_1.slots) : GM E Y_Arrays_copyOf2 (d + 1) [.ref q0, .int m, .ref (gMir E)] (yW E G a c u n sl) (rIs (some (.ref n)) (yW E G a c (uG u n q0 (9 + D) N M) (n + 1) (sl + N))) := by
  refine g_entry (by decide) (by simp [Value.category]) (Nat.le_of_ble_eq_true rfl) ?_
  refine g_aload_n d_Arrays_copyOf2_0 rfl ?_
  refine g_ldcM w_gcC d_Arrays_copyOf2_1 ?_
  refine g_acmp_ne (tgt := 13) d_Arrays_copyOf2_3 (by decide) (fun c_3 => ?_) (fun c_3 => ?_)
  · exact absurd c_3 (fun e => e rfl)
  refine g_iload_n d_Arrays_copyOf2_6 rfl ?_
  refine g_newO (N := N) cl_Arrays_2 wo_Object hm (by omega) hc hs d_Arrays_copyOf2_7 ?_
  rw [z_new (k := 9 + D) (l := N) (f := fun _ => 0) (g := fun _ => none) (y := gAO E (N) (fun _ => none)) ha hL.2.2.1.1 (by rw [hL.2.2.1.2, show (uN u n (9 + D) (N) (fun _ => 0) (fun _ => none)).2.1 n = N from upN_at, show (uN u n (9 + D) (N) (fun _ => 0) (fun _ => none)).2.2.2 n = fun _ => none from upT_at])]
  show GT E Y_Arrays_copyOf2 (d + 1) _ 10 _ (.ref n :: _) _ _
  refine g_goto (tgt := 24) d_Arrays_copyOf2_10 (by decide) ?_
  refine g_astore_n d_Arrays_copyOf2_24 (by decide) rfl ?_
  refine g_aload_n d_Arrays_copyOf2_25 rfl ?_
  refine g_iconst (v := 0) d_Arrays_copyOf2_26 (by decide) ?_
  refine g_aload_n d_Arrays_copyOf2_27 rfl ?_
  refine g_iconst (v := 0) d_Arrays_copyOf2_28 (by decide) ?_
  refine g_aload_n d_Arrays_copyOf2_29 rfl ?_
  refine z_olen (u := (uN u n (9 + D) (N) (fun _ => 0) (fun _ => none))) (k := 9 + D) (v := nI M) hL.2.2.1 (zIs_new hz (by omega)) (by rw [show (uN u n (9 + D) (N) (fun _ => 0) (fun _ => none)).2.1 q0 = u.2.1 q0 from upN_ne (by omega), hM]; rfl) d_Arrays_copyOf2_30 ?_
  refine g_iload_n d_Arrays_copyOf2_31 rfl ?_
  have hmin : (if m < nI M then m else nI M).toInt = (M : Int) := by
    rw [if_neg (fun q => by rw [Int32.lt_iff_toInt_lt, hm, nI_hi (by omega)] at q; omega)]
    exact nI_hi (by omega)
  refine c_Sr (as := [.int (nI M), .int (m)]) ks_Math_min ml_Arrays_304 (m_Math_min (nI M) m) rfl (Nat.le_of_ble_eq_true rfl) rfl d_Arrays_copyOf2_32 rfl ?_
  refine z_copy (u := (uN u n (9 + D) (N) (fun _ => 0) (fun _ => none))) (kb := kb) (N := M) (J := 0) (K := 0) w_cp1 hL.2.2.1 (zIs_new hz (by omega)) hL.2.2.1 (zIs_at ha) (by decide) (by decide) hmin (by rw [show (uN u n (9 + D) (N) (fun _ => 0) (fun _ => none)).2.1 q0 = u.2.1 q0 from upN_ne (by omega), hM]; omega) (by rw [show (uN u n (9 + D) (N) (fun _ => 0) (fun _ => none)).2.1 n = N from upN_at]; omega) hk (fun i hi y hy => ?_) (Nat.le_of_ble_eq_true rfl) d_Arrays_copyOf2_35 ?_
  · rw [show (uN u n (9 + D) (N) (fun _ => 0) (fun _ => none)).2.2.2 q0 = u.2.2.2 q0 from upT_ne (by omega), Nat.zero_add] at hy
    exact zIs_new (hel i hi y hy).1 (by have := (hel i hi y hy).2; omega)
  rw [uG_eq (by omega)]
  refine g_aload_n d_Arrays_copyOf2_38 rfl ?_
  refine g_aret rfl (by first | exact Or.inl ⟨_, rfl⟩ | exact Or.inr ⟨_, rfl⟩) (by first | exact Or.inl rfl | exact Or.inr ⟨_, rfl⟩) d_Arrays_copyOf2_39 ?_
  exact ⟨rfl, rfl⟩
set_option maxHeartbeats 400000 in
set_option maxRecDepth 100000 in
theorem m_copyOf (hL : lK k im is D) {q0 N M : Nat} {m : Int32} (hz : zIs u a q0 (9 + D)) (hq : q0 < n) (ha : a + 24 ≤ n) (hm : m.toInt = (N : Int)) (hM : u.2.1 q0 = M) (hMN : M ≤ N) (hN : N ≤ 100000) {kb : Nat} (hk : kb = 1 ∨ kb = 5 ∨ kb = 6 ∨ kb = 7) (hel : ∀ i, i < M → ∀ y, u.2.2.2 q0 i = some y → zIs u a y kb ∧ y < n) (hc : n + 1 ≤ E.1.heap.size + room_1.cells) (hs : sl + N ≤ room_1.slots) : GM E Y_Arrays_copyOf (d + 2) [.ref q0, .int m] (yW E G a c u n sl) (rIs (some (.ref n)) (yW E G a c (uG u n q0 (9 + D) N M) (n + 1) (sl + N))) := by
  refine g_entry (by decide) (by simp [Value.category]) (Nat.le_of_ble_eq_true rfl) ?_
  refine g_aload_n d_Arrays_copyOf_0 rfl ?_
  refine g_iload_n d_Arrays_copyOf_1 rfl ?_
  refine g_aload_n d_Arrays_copyOf_2 rfl ?_
  refine g_getC w_gcL (z_ao hz hL.2.2.1) (Nat.le_of_ble_eq_true rfl) d_Arrays_copyOf_3 ?_
  refine c_Sr (as := [.ref (q0), .int (m), .ref (gMir E)]) ks_Arrays_copyOf2 ml_Arrays_300 (m_copyOf2 hL hz hq ha hm hM hMN hN hk hel hc hs) rfl (Nat.le_of_ble_eq_true rfl) rfl d_Arrays_copyOf_6 rfl ?_
  refine g_aret rfl (by first | exact Or.inl ⟨_, rfl⟩ | exact Or.inr ⟨_, rfl⟩) (by first | exact Or.inl rfl | exact Or.inr ⟨_, rfl⟩) d_Arrays_copyOf_9 ?_
  exact ⟨rfl, rfl⟩
set_option maxHeartbeats 400000 in
set_option maxRecDepth 100000 in
theorem m_L_grow0 (hL : lK k im is D) (hD : c.2.2.2 D = gDef E) (ha : a + 24 ≤ n) (hc : n + 1 ≤ E.1.heap.size + room_1.cells) (hs : sl + 10 ≤ room_1.slots) : GM E Y_ArrayList_grow2 (d + 3) [.ref (a + k), .int 1] (yW E G a c u n sl) (rIs (some (.ref n)) (yW E G a (cD c D n) (uN u n (9 + D) 10 (fun _ => 0) (fun _ => none)) (n + 1) (sl + 10))) := by
  refine g_entry (by decide) (by simp [Value.category]) (Nat.le_of_ble_eq_true rfl) ?_
  refine g_aload_n d_ArrayList_grow2_0 rfl ?_
  refine l_get (j := 1) (v := .ref (c.2.2.2 D)) hL fl_ArrayList_9 (by decide) rfl d_ArrayList_grow2_1 ?_
  rw [hD]
  refine g_defLen d_ArrayList_grow2_4 ?_
  refine g_istore_n d_ArrayList_grow2_5 (by decide) rfl ?_
  refine g_iload_n d_ArrayList_grow2_6 rfl ?_
  refine g_if_gt (tgt := 20) d_ArrayList_grow2_7 (by decide) (fun c_7 => absurd c_7 (by decide)) (fun c_7 => ?_)
  refine g_aload_n d_ArrayList_grow2_10 rfl ?_
  refine l_get (j := 1) (v := .ref (c.2.2.2 D)) hL fl_ArrayList_9 (by decide) rfl d_ArrayList_grow2_11 ?_
  rw [hD]
  refine g_getDef w_defF d_ArrayList_grow2_14 ?_
  refine g_acmp_eq (tgt := 45) d_ArrayList_grow2_17 (by decide) (fun c_17 => ?_) (fun c_17 => ?_)
  rotate_left
  · exact absurd c_17 (fun e => e rfl)
  refine g_aload_n d_ArrayList_grow2_45 rfl ?_
  refine g_bipush (v := 10) d_ArrayList_grow2_46 (by decide) ?_
  refine g_iload_n d_ArrayList_grow2_48 rfl ?_
  refine c_Sr (as := [.int (10), .int (1)]) ks_Math_max ml_ArrayList_79 (m_Math_max 10 1) rfl (Nat.le_of_ble_eq_true rfl) rfl d_ArrayList_grow2_49 rfl ?_
  refine g_newO (N := 10) cl_ArrayList_7 wo_Object (by decide) (by decide) hc hs d_ArrayList_grow2_52 ?_
  rw [z_new (k := 9 + D) (l := 10) (f := fun _ => 0) (g := fun _ => none) (y := gAO E (10) (fun _ => none)) ha hL.2.2.1.1 (by rw [hL.2.2.1.2, show (uN u n (9 + D) (10) (fun _ => 0) (fun _ => none)).2.1 n = 10 from upN_at, show (uN u n (9 + D) (10) (fun _ => 0) (fun _ => none)).2.2.2 n = fun _ => none from upT_at])]
  show GT E Y_ArrayList_grow2 (d + 3) _ 55 _ (.ref n :: _) _ _
  refine g_dup_x1 d_ArrayList_grow2_55 rfl rfl ?_
  refine l_D (x := n) hL fl_ArrayList_9 d_ArrayList_grow2_56 ?_
  refine g_aret rfl (by first | exact Or.inl ⟨_, rfl⟩ | exact Or.inr ⟨_, rfl⟩) (by first | exact Or.inl rfl | exact Or.inr ⟨_, rfl⟩) d_ArrayList_grow2_59 ?_
  exact ⟨rfl, rfl⟩
theorem grow_len {M : Nat} (h2 : 2 ≤ M) (hb : M ≤ 60000) : (nI M + (if nI (M + 1) - nI M < nI M >>> (1 &&& 31) then nI M >>> (1 &&& 31) else nI (M + 1) - nI M)).toInt = ((M + M / 2 : Nat) : Int) := by
  have es : nI M >>> ((1 : Int32) &&& 31) = nI (M / 2) := by
    have k := pk_shrN (n := M) (by omega) ((1 : Int32) &&& 31) 1 (by decide)
    rw [Nat.pow_one] at k
    exact k
  have ed : nI (M + 1) - nI M = nI 1 := i_nI (by
    have := sub_hi (nI_hi (n := M + 1) (by omega)) (nI_hi (n := M) (by omega)) (by omega)
    rw [Nat.add_sub_cancel_left] at this
    exact this)
  rw [es, ed]
  by_cases c : 1 < M / 2
  · rw [if_pos ((lt_hi (nI_hi (by omega)) (nI_hi (by omega))).mpr c)]
    exact add_hi (nI_hi (by omega)) (nI_hi (by omega)) (by omega)
  · rw [if_neg (fun q => c ((lt_hi (nI_hi (by omega)) (nI_hi (by omega))).mp q))]
    have e : M / 2 = 1 := by omega
    rw [e]
    exact add_hi (nI_hi (by omega)) (nI_hi (by omega)) (by omega)
set_option maxHeartbeats 400000 in
set_option maxRecDepth 100000 in
theorem m_L_grow1 (hL : lK k im is D) {M : Nat} (hz : zIs u a (c.2.2.2 D) (9 + D)) (hq : c.2.2.2 D < n) (ha : a + 24 ≤ n) (hM : u.2.1 (c.2.2.2 D) = M) (hM0 : 2 ≤ M) (hMb : M ≤ 60000) {kb : Nat} (hk : kb = 1 ∨ kb = 5 ∨ kb = 6 ∨ kb = 7) (hel : ∀ i, i < M → ∀ y, u.2.2.2 (c.2.2.2 D) i = some y → zIs u a y kb ∧ y < n) (hc : n + 1 ≤ E.1.heap.size + room_1.cells) (hs : sl + (M + M / 2) ≤ room_1.slots) : GM E Y_ArrayList_grow2 (d + 3) [.ref (a + k), .int (nI (M + 1))] (yW E G a c u n sl) (rIs (some (.ref n)) (yW E G a (cD c D n) (uG u n (c.2.2.2 D) (9 + D) (M + M / 2) M) (n + 1) (sl + (M + M / 2)))) := by
  refine g_entry (by decide) (by simp [Value.category]) (Nat.le_of_ble_eq_true rfl) ?_
  refine g_aload_n d_ArrayList_grow2_0 rfl ?_
  refine l_get (j := 1) (v := .ref (c.2.2.2 D)) hL fl_ArrayList_9 (by decide) rfl d_ArrayList_grow2_1 ?_
  refine z_olen (v := nI M) hL.2.2.1 hz (by rw [hM]; rfl) d_ArrayList_grow2_4 ?_
  refine g_istore_n d_ArrayList_grow2_5 (by decide) rfl ?_
  refine g_iload_n d_ArrayList_grow2_6 rfl ?_
  refine g_if_gt (tgt := 20) d_ArrayList_grow2_7 (by decide) (fun c_7 => ?_) (fun c_7 => ?_)
  rotate_left
  · exact absurd c_7 (fun q => q (by rw [Int32.lt_iff_toInt_lt, nI_hi (by omega), Int32.toInt_zero]; omega))
  refine g_iload_n d_ArrayList_grow2_20 rfl ?_
  refine g_iload_n d_ArrayList_grow2_21 rfl ?_
  refine g_iload_n d_ArrayList_grow2_22 rfl ?_
  refine g_isub d_ArrayList_grow2_23 ?_
  refine g_iload_n d_ArrayList_grow2_24 rfl ?_
  refine g_iconst (v := 1) d_ArrayList_grow2_25 (by decide) ?_
  refine g_ishr d_ArrayList_grow2_26 ?_
  refine c_Sr (as := [.int (nI M), .int ((nI (M + 1)) - (nI M)), .int ((nI M) >>> ((1) &&& 31))]) ks_ArraysSupport_newLength ml_ArrayList_73 (m_newLength (grow_len hM0 hMb) (by omega) (by omega)) rfl (Nat.le_of_ble_eq_true rfl) rfl d_ArrayList_grow2_27 rfl ?_
  refine g_istore_n d_ArrayList_grow2_30 (by decide) rfl ?_
  refine g_aload_n d_ArrayList_grow2_31 rfl ?_
  refine g_aload_n d_ArrayList_grow2_32 rfl ?_
  refine l_get (j := 1) (v := .ref (c.2.2.2 D)) hL fl_ArrayList_9 (by decide) rfl d_ArrayList_grow2_33 ?_
  refine g_iload_n d_ArrayList_grow2_36 rfl ?_
  refine c_Sr (as := [.ref (c.2.2.2 D), .int (nI M + (if nI (M + 1) - nI M < nI M >>> (1 &&& 31) then nI M >>> (1 &&& 31) else nI (M + 1) - nI M))]) ks_Arrays_copyOf ml_ArrayList_66 (m_copyOf hL hz hq ha (grow_len hM0 hMb) hM (by omega) (by omega) hk hel hc hs) rfl (Nat.le_of_ble_eq_true rfl) rfl d_ArrayList_grow2_37 rfl ?_
  refine g_dup_x1 d_ArrayList_grow2_40 rfl rfl ?_
  refine l_D (x := n) hL fl_ArrayList_9 d_ArrayList_grow2_41 ?_
  refine g_aret rfl (by first | exact Or.inl ⟨_, rfl⟩ | exact Or.inr ⟨_, rfl⟩) (by first | exact Or.inl rfl | exact Or.inr ⟨_, rfl⟩) d_ArrayList_grow2_44 ?_
  exact ⟨rfl, rfl⟩
set_option maxHeartbeats 400000 in
set_option maxRecDepth 100000 in
theorem m_L_grow00 (hL : lK k im is D) (hD : c.2.2.2 D = gDef E) (h0 : c.1 is = 0) (ha : a + 24 ≤ n) (hc : n + 1 ≤ E.1.heap.size + room_1.cells) (hs : sl + 10 ≤ room_1.slots) : GM E Y_ArrayList_grow (d + 4) [.ref (a + k)] (yW E G a c u n sl) (rIs (some (.ref n)) (yW E G a (cD c D n) (uN u n (9 + D) 10 (fun _ => 0) (fun _ => none)) (n + 1) (sl + 10))) := by
  refine g_entry (by decide) (by simp [Value.category]) (Nat.le_of_ble_eq_true rfl) ?_
  refine g_aload_n d_ArrayList_grow_0 rfl ?_
  refine g_aload_n d_ArrayList_grow_1 rfl ?_
  refine l_get (j := 2) (v := .int (c.1 is)) hL fl_ArrayList_48 (by decide) rfl d_ArrayList_grow_2 ?_
  rw [h0]
  refine g_iconst (v := 1) d_ArrayList_grow_5 (by decide) ?_
  refine g_iadd d_ArrayList_grow_6 ?_
  refine c_Vr (as := [.int ((0) + (1))]) kv_ArrayList_grow2 ml_ArrayList_69 rfl (l_at hL) (m_L_grow0 hL hD ha hc hs) rfl (Nat.le_of_ble_eq_true rfl) rfl d_ArrayList_grow_7 rfl ?_
  refine g_aret rfl (by first | exact Or.inl ⟨_, rfl⟩ | exact Or.inr ⟨_, rfl⟩) (by first | exact Or.inl rfl | exact Or.inr ⟨_, rfl⟩) d_ArrayList_grow_10 ?_
  exact ⟨rfl, rfl⟩
set_option maxHeartbeats 400000 in
set_option maxRecDepth 100000 in
theorem m_L_grow11 (hL : lK k im is D) {M : Nat} (hz : zIs u a (c.2.2.2 D) (9 + D)) (hq : c.2.2.2 D < n) (ha : a + 24 ≤ n) (hM : u.2.1 (c.2.2.2 D) = M) (hM0 : 2 ≤ M) (hMb : M ≤ 60000) {kb : Nat} (hk : kb = 1 ∨ kb = 5 ∨ kb = 6 ∨ kb = 7) (hel : ∀ i, i < M → ∀ y, u.2.2.2 (c.2.2.2 D) i = some y → zIs u a y kb ∧ y < n) (hc : n + 1 ≤ E.1.heap.size + room_1.cells) (hs : sl + (M + M / 2) ≤ room_1.slots) (h0 : c.1 is = nI M) : GM E Y_ArrayList_grow (d + 4) [.ref (a + k)] (yW E G a c u n sl) (rIs (some (.ref n)) (yW E G a (cD c D n) (uG u n (c.2.2.2 D) (9 + D) (M + M / 2) M) (n + 1) (sl + (M + M / 2)))) := by
  refine g_entry (by decide) (by simp [Value.category]) (Nat.le_of_ble_eq_true rfl) ?_
  refine g_aload_n d_ArrayList_grow_0 rfl ?_
  refine g_aload_n d_ArrayList_grow_1 rfl ?_
  refine l_get (j := 2) (v := .int (c.1 is)) hL fl_ArrayList_48 (by decide) rfl d_ArrayList_grow_2 ?_
  rw [h0]
  refine g_iconst (v := 1) d_ArrayList_grow_5 (by decide) ?_
  refine g_iadd d_ArrayList_grow_6 ?_
  refine g_top (nI (M + 1)) (nI_1 M) ?_
  refine c_Vr (as := [.int (nI (M + 1))]) kv_ArrayList_grow2 ml_ArrayList_69 rfl (l_at hL) (m_L_grow1 hL hz hq ha hM hM0 hMb hk hel hc hs) rfl (Nat.le_of_ble_eq_true rfl) rfl d_ArrayList_grow_7 rfl ?_
  refine g_aret rfl (by first | exact Or.inl ⟨_, rfl⟩ | exact Or.inr ⟨_, rfl⟩) (by first | exact Or.inl rfl | exact Or.inr ⟨_, rfl⟩) d_ArrayList_grow_10 ?_
  exact ⟨rfl, rfl⟩
end AL

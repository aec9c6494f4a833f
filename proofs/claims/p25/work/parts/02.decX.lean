theorem dJ15_checkIndex_7cf53_0 : decode cJ15_checkIndex_7cf53 0 = .ok (.iload_n 0, 1) := by decide +kernel
theorem dJ15_checkIndex_7cf53_1 : decode cJ15_checkIndex_7cf53 1 = .ok (.iload_n 1, 1) := by decide +kernel
theorem dJ15_checkIndex_7cf53_2 : decode cJ15_checkIndex_7cf53 2 = .ok (.aconst_null, 1) := by decide +kernel
theorem dJ15_checkIndex_7cf53_3 : decode cJ15_checkIndex_7cf53 3 = .ok (.invokestatic 105, 3) := by decide +kernel
theorem dJ15_checkIndex_7cf53_6 : decode cJ15_checkIndex_7cf53 6 = .ok (.ireturn, 1) := by decide +kernel
theorem dJ3_checkIndex_8e157_0 : decode cJ3_checkIndex_8e157 0 = .ok (.iload_n 0, 1) := by decide +kernel
theorem dJ3_checkIndex_8e157_1 : decode cJ3_checkIndex_8e157 1 = .ok (.ifCond .lt 8, 3) := by decide +kernel
theorem dJ3_checkIndex_8e157_4 : decode cJ3_checkIndex_8e157 4 = .ok (.iload_n 0, 1) := by decide +kernel
theorem dJ3_checkIndex_8e157_5 : decode cJ3_checkIndex_8e157 5 = .ok (.iload_n 1, 1) := by decide +kernel
theorem dJ3_checkIndex_8e157_6 : decode cJ3_checkIndex_8e157 6 = .ok (.if_icmp .lt 10, 3) := by decide +kernel
theorem dJ3_checkIndex_8e157_9 : decode cJ3_checkIndex_8e157 9 = .ok (.aload_n 2, 1) := by decide +kernel
theorem dJ3_checkIndex_8e157_10 : decode cJ3_checkIndex_8e157 10 = .ok (.iload_n 0, 1) := by decide +kernel
theorem dJ3_checkIndex_8e157_11 : decode cJ3_checkIndex_8e157 11 = .ok (.iload_n 1, 1) := by decide +kernel
theorem dJ3_checkIndex_8e157_12 : decode cJ3_checkIndex_8e157 12 = .ok (.invokestatic 95, 3) := by decide +kernel
theorem dJ3_checkIndex_8e157_15 : decode cJ3_checkIndex_8e157 15 = .ok (.athrow, 1) := by decide +kernel
theorem dJ3_checkIndex_8e157_16 : decode cJ3_checkIndex_8e157 16 = .ok (.iload_n 0, 1) := by decide +kernel
theorem dJ3_checkIndex_8e157_17 : decode cJ3_checkIndex_8e157 17 = .ok (.ireturn, 1) := by decide +kernel
theorem dJ7_copyOf_1904c_0 : decode cJ7_copyOf_1904c 0 = .ok (.aload_n 0, 1) := by decide +kernel
theorem dJ7_copyOf_1904c_1 : decode cJ7_copyOf_1904c 1 = .ok (.iload_n 1, 1) := by decide +kernel
theorem dJ7_copyOf_1904c_2 : decode cJ7_copyOf_1904c 2 = .ok (.aload_n 0, 1) := by decide +kernel
theorem dJ7_copyOf_1904c_3 : decode cJ7_copyOf_1904c 3 = .ok (.invokevirtual 86, 3) := by decide +kernel
theorem dJ7_copyOf_1904c_6 : decode cJ7_copyOf_1904c 6 = .ok (.invokestatic 300, 3) := by decide +kernel
theorem dJ7_copyOf_1904c_9 : decode cJ7_copyOf_1904c 9 = .ok (.areturn, 1) := by decide +kernel
theorem dJ7_copyOf_6403c_0 : decode cJ7_copyOf_6403c 0 = .ok (.aload_n 2, 1) := by decide +kernel
theorem dJ7_copyOf_6403c_1 : decode cJ7_copyOf_6403c 1 = .ok (.ldc 110, 2) := by decide +kernel
theorem dJ7_copyOf_6403c_3 : decode cJ7_copyOf_6403c 3 = .ok (.if_acmp .ne 10, 3) := by decide +kernel
theorem dJ7_copyOf_6403c_6 : decode cJ7_copyOf_6403c 6 = .ok (.iload_n 1, 1) := by decide +kernel
theorem dJ7_copyOf_6403c_7 : decode cJ7_copyOf_6403c 7 = .ok (.anewarray 2, 3) := by decide +kernel
theorem dJ7_copyOf_6403c_10 : decode cJ7_copyOf_6403c 10 = .ok (.goto 14, 3) := by decide +kernel
theorem dJ7_copyOf_6403c_13 : decode cJ7_copyOf_6403c 13 = .ok (.aload_n 2, 1) := by decide +kernel
theorem dJ7_copyOf_6403c_14 : decode cJ7_copyOf_6403c 14 = .ok (.invokevirtual 90, 3) := by decide +kernel
theorem dJ7_copyOf_6403c_17 : decode cJ7_copyOf_6403c 17 = .ok (.iload_n 1, 1) := by decide +kernel
theorem dJ7_copyOf_6403c_18 : decode cJ7_copyOf_6403c 18 = .ok (.invokestatic 95, 3) := by decide +kernel
theorem dJ7_copyOf_6403c_21 : decode cJ7_copyOf_6403c 21 = .ok (.checkcast 110, 3) := by decide +kernel
theorem dJ7_copyOf_6403c_24 : decode cJ7_copyOf_6403c 24 = .ok (.astore_n 3, 1) := by decide +kernel
theorem dJ7_copyOf_6403c_25 : decode cJ7_copyOf_6403c 25 = .ok (.aload_n 0, 1) := by decide +kernel
theorem dJ7_copyOf_6403c_26 : decode cJ7_copyOf_6403c 26 = .ok (.iconst 0, 1) := by decide +kernel
theorem dJ7_copyOf_6403c_27 : decode cJ7_copyOf_6403c 27 = .ok (.aload_n 3, 1) := by decide +kernel
theorem dJ7_copyOf_6403c_28 : decode cJ7_copyOf_6403c 28 = .ok (.iconst 0, 1) := by decide +kernel
theorem dJ7_copyOf_6403c_29 : decode cJ7_copyOf_6403c 29 = .ok (.aload_n 0, 1) := by decide +kernel
theorem dJ7_copyOf_6403c_30 : decode cJ7_copyOf_6403c 30 = .ok (.arraylength, 1) := by decide +kernel
theorem dJ7_copyOf_6403c_31 : decode cJ7_copyOf_6403c 31 = .ok (.iload_n 1, 1) := by decide +kernel
theorem dJ7_copyOf_6403c_32 : decode cJ7_copyOf_6403c 32 = .ok (.invokestatic 304, 3) := by decide +kernel
theorem dJ7_copyOf_6403c_35 : decode cJ7_copyOf_6403c 35 = .ok (.invokestatic 150, 3) := by decide +kernel
theorem dJ7_copyOf_6403c_38 : decode cJ7_copyOf_6403c 38 = .ok (.aload_n 3, 1) := by decide +kernel
theorem dJ7_copyOf_6403c_39 : decode cJ7_copyOf_6403c 39 = .ok (.areturn, 1) := by decide +kernel
theorem dJ8_newLength_cabcc_0 : decode cJ8_newLength_cabcc 0 = .ok (.iload_n 0, 1) := by decide +kernel
theorem dJ8_newLength_cabcc_1 : decode cJ8_newLength_cabcc 1 = .ok (.iload_n 1, 1) := by decide +kernel
theorem dJ8_newLength_cabcc_2 : decode cJ8_newLength_cabcc 2 = .ok (.iload_n 2, 1) := by decide +kernel
theorem dJ8_newLength_cabcc_3 : decode cJ8_newLength_cabcc 3 = .ok (.invokestatic 194, 3) := by decide +kernel
theorem dJ8_newLength_cabcc_6 : decode cJ8_newLength_cabcc 6 = .ok (.iadd, 1) := by decide +kernel
theorem dJ8_newLength_cabcc_7 : decode cJ8_newLength_cabcc 7 = .ok (.istore_n 3, 1) := by decide +kernel
theorem dJ8_newLength_cabcc_8 : decode cJ8_newLength_cabcc 8 = .ok (.iconst 0, 1) := by decide +kernel
theorem dJ8_newLength_cabcc_9 : decode cJ8_newLength_cabcc 9 = .ok (.iload_n 3, 1) := by decide +kernel
theorem dJ8_newLength_cabcc_10 : decode cJ8_newLength_cabcc 10 = .ok (.if_icmp .ge 11, 3) := by decide +kernel
theorem dJ8_newLength_cabcc_13 : decode cJ8_newLength_cabcc 13 = .ok (.iload_n 3, 1) := by decide +kernel
theorem dJ8_newLength_cabcc_14 : decode cJ8_newLength_cabcc 14 = .ok (.ldc 200, 2) := by decide +kernel
theorem dJ8_newLength_cabcc_16 : decode cJ8_newLength_cabcc 16 = .ok (.if_icmp .gt 5, 3) := by decide +kernel
theorem dJ8_newLength_cabcc_19 : decode cJ8_newLength_cabcc 19 = .ok (.iload_n 3, 1) := by decide +kernel
theorem dJ8_newLength_cabcc_20 : decode cJ8_newLength_cabcc 20 = .ok (.ireturn, 1) := by decide +kernel
theorem dJ8_newLength_cabcc_21 : decode cJ8_newLength_cabcc 21 = .ok (.iload_n 0, 1) := by decide +kernel
theorem dJ8_newLength_cabcc_22 : decode cJ8_newLength_cabcc 22 = .ok (.iload_n 1, 1) := by decide +kernel
theorem dJ8_newLength_cabcc_23 : decode cJ8_newLength_cabcc 23 = .ok (.invokestatic 201, 3) := by decide +kernel
theorem dJ8_newLength_cabcc_26 : decode cJ8_newLength_cabcc 26 = .ok (.ireturn, 1) := by decide +kernel
theorem dJ8_hugeLength_7cf53_0 : decode cJ8_hugeLength_7cf53 0 = .ok (.iload_n 0, 1) := by decide +kernel
theorem dJ8_hugeLength_7cf53_1 : decode cJ8_hugeLength_7cf53 1 = .ok (.iload_n 1, 1) := by decide +kernel
theorem dJ8_hugeLength_7cf53_2 : decode cJ8_hugeLength_7cf53 2 = .ok (.iadd, 1) := by decide +kernel
theorem dJ8_hugeLength_7cf53_3 : decode cJ8_hugeLength_7cf53 3 = .ok (.istore_n 2, 1) := by decide +kernel
theorem dJ8_hugeLength_7cf53_4 : decode cJ8_hugeLength_7cf53 4 = .ok (.iload_n 2, 1) := by decide +kernel
theorem dJ8_hugeLength_7cf53_5 : decode cJ8_hugeLength_7cf53 5 = .ok (.ifCond .ge 44, 3) := by decide +kernel
theorem dJ8_hugeLength_7cf53_8 : decode cJ8_hugeLength_7cf53 8 = .ok (.new 204, 3) := by decide +kernel
theorem dJ8_hugeLength_7cf53_11 : decode cJ8_hugeLength_7cf53 11 = .ok (.dup, 1) := by decide +kernel
theorem dJ8_hugeLength_7cf53_12 : decode cJ8_hugeLength_7cf53 12 = .ok (.new 89, 3) := by decide +kernel
theorem dJ8_hugeLength_7cf53_15 : decode cJ8_hugeLength_7cf53 15 = .ok (.dup, 1) := by decide +kernel
theorem dJ8_hugeLength_7cf53_16 : decode cJ8_hugeLength_7cf53 16 = .ok (.invokespecial 91, 3) := by decide +kernel
theorem dJ8_hugeLength_7cf53_19 : decode cJ8_hugeLength_7cf53 19 = .ok (.ldc 206, 2) := by decide +kernel
theorem dJ8_hugeLength_7cf53_21 : decode cJ8_hugeLength_7cf53 21 = .ok (.invokevirtual 94, 3) := by decide +kernel
theorem dJ8_hugeLength_7cf53_24 : decode cJ8_hugeLength_7cf53 24 = .ok (.iload_n 0, 1) := by decide +kernel
theorem dJ8_hugeLength_7cf53_25 : decode cJ8_hugeLength_7cf53 25 = .ok (.invokevirtual 98, 3) := by decide +kernel
theorem dJ8_hugeLength_7cf53_28 : decode cJ8_hugeLength_7cf53 28 = .ok (.ldc 208, 2) := by decide +kernel
theorem dJ8_hugeLength_7cf53_30 : decode cJ8_hugeLength_7cf53 30 = .ok (.invokevirtual 94, 3) := by decide +kernel
theorem dJ8_hugeLength_7cf53_33 : decode cJ8_hugeLength_7cf53 33 = .ok (.iload_n 1, 1) := by decide +kernel
theorem dJ8_hugeLength_7cf53_34 : decode cJ8_hugeLength_7cf53 34 = .ok (.invokevirtual 98, 3) := by decide +kernel
theorem dJ8_hugeLength_7cf53_37 : decode cJ8_hugeLength_7cf53 37 = .ok (.ldc 210, 2) := by decide +kernel
theorem dJ8_hugeLength_7cf53_39 : decode cJ8_hugeLength_7cf53 39 = .ok (.invokevirtual 94, 3) := by decide +kernel
theorem dJ8_hugeLength_7cf53_42 : decode cJ8_hugeLength_7cf53 42 = .ok (.invokevirtual 101, 3) := by decide +kernel
theorem dJ8_hugeLength_7cf53_45 : decode cJ8_hugeLength_7cf53 45 = .ok (.invokespecial 212, 3) := by decide +kernel
theorem dJ8_hugeLength_7cf53_48 : decode cJ8_hugeLength_7cf53 48 = .ok (.athrow, 1) := by decide +kernel
theorem dJ8_hugeLength_7cf53_49 : decode cJ8_hugeLength_7cf53 49 = .ok (.iload_n 2, 1) := by decide +kernel
theorem dJ8_hugeLength_7cf53_50 : decode cJ8_hugeLength_7cf53 50 = .ok (.ldc 200, 2) := by decide +kernel
theorem dJ8_hugeLength_7cf53_52 : decode cJ8_hugeLength_7cf53 52 = .ok (.if_icmp .gt 6, 3) := by decide +kernel
theorem dJ8_hugeLength_7cf53_55 : decode cJ8_hugeLength_7cf53 55 = .ok (.ldc 200, 2) := by decide +kernel
theorem dJ8_hugeLength_7cf53_57 : decode cJ8_hugeLength_7cf53 57 = .ok (.ireturn, 1) := by decide +kernel
theorem dJ8_hugeLength_7cf53_58 : decode cJ8_hugeLength_7cf53 58 = .ok (.iload_n 2, 1) := by decide +kernel
theorem dJ8_hugeLength_7cf53_59 : decode cJ8_hugeLength_7cf53 59 = .ok (.ireturn, 1) := by decide +kernel
theorem dJ9_max_7cf53_0 : decode cJ9_max_7cf53 0 = .ok (.iload_n 0, 1) := by decide +kernel
theorem dJ9_max_7cf53_1 : decode cJ9_max_7cf53 1 = .ok (.iload_n 1, 1) := by decide +kernel
theorem dJ9_max_7cf53_2 : decode cJ9_max_7cf53 2 = .ok (.if_icmp .lt 7, 3) := by decide +kernel
theorem dJ9_max_7cf53_5 : decode cJ9_max_7cf53 5 = .ok (.iload_n 0, 1) := by decide +kernel
theorem dJ9_max_7cf53_6 : decode cJ9_max_7cf53 6 = .ok (.goto 4, 3) := by decide +kernel
theorem dJ9_max_7cf53_9 : decode cJ9_max_7cf53 9 = .ok (.iload_n 1, 1) := by decide +kernel
theorem dJ9_max_7cf53_10 : decode cJ9_max_7cf53 10 = .ok (.ireturn, 1) := by decide +kernel
theorem dJ9_min_7cf53_0 : decode cJ9_min_7cf53 0 = .ok (.iload_n 0, 1) := by decide +kernel
theorem dJ9_min_7cf53_1 : decode cJ9_min_7cf53 1 = .ok (.iload_n 1, 1) := by decide +kernel
theorem dJ9_min_7cf53_2 : decode cJ9_min_7cf53 2 = .ok (.if_icmp .gt 7, 3) := by decide +kernel
theorem dJ9_min_7cf53_5 : decode cJ9_min_7cf53 5 = .ok (.iload_n 0, 1) := by decide +kernel
theorem dJ9_min_7cf53_6 : decode cJ9_min_7cf53 6 = .ok (.goto 4, 3) := by decide +kernel
theorem dJ9_min_7cf53_9 : decode cJ9_min_7cf53 9 = .ok (.iload_n 1, 1) := by decide +kernel
theorem dJ9_min_7cf53_10 : decode cJ9_min_7cf53 10 = .ok (.ireturn, 1) := by decide +kernel
theorem dJx4a65c_init_da8c8_0 : decode cJx4a65c_init_da8c8 0 = .ok (.aload_n 0, 1) := by decide +kernel
theorem dJx4a65c_init_da8c8_1 : decode cJx4a65c_init_da8c8 1 = .ok (.invokespecial 1, 3) := by decide +kernel
theorem dJx4a65c_init_da8c8_4 : decode cJx4a65c_init_da8c8 4 = .ok (.aload_n 0, 1) := by decide +kernel
theorem dJx4a65c_init_da8c8_5 : decode cJx4a65c_init_da8c8 5 = .ok (.getstatic 39, 3) := by decide +kernel
theorem dJx4a65c_init_da8c8_8 : decode cJx4a65c_init_da8c8 8 = .ok (.putfield 9, 3) := by decide +kernel
theorem dJx4a65c_init_da8c8_11 : decode cJx4a65c_init_da8c8 11 = .ok (.return_, 1) := by decide +kernel
theorem dJx4a65c_grow_92f84_0 : decode cJx4a65c_grow_92f84 0 = .ok (.aload_n 0, 1) := by decide +kernel
theorem dJx4a65c_grow_92f84_1 : decode cJx4a65c_grow_92f84 1 = .ok (.getfield 9, 3) := by decide +kernel
theorem dJx4a65c_grow_92f84_4 : decode cJx4a65c_grow_92f84 4 = .ok (.arraylength, 1) := by decide +kernel
theorem dJx4a65c_grow_92f84_5 : decode cJx4a65c_grow_92f84 5 = .ok (.istore_n 2, 1) := by decide +kernel
theorem dJx4a65c_grow_92f84_6 : decode cJx4a65c_grow_92f84 6 = .ok (.iload_n 2, 1) := by decide +kernel
theorem dJx4a65c_grow_92f84_7 : decode cJx4a65c_grow_92f84 7 = .ok (.ifCond .gt 13, 3) := by decide +kernel
theorem dJx4a65c_grow_92f84_10 : decode cJx4a65c_grow_92f84 10 = .ok (.aload_n 0, 1) := by decide +kernel
theorem dJx4a65c_grow_92f84_11 : decode cJx4a65c_grow_92f84 11 = .ok (.getfield 9, 3) := by decide +kernel
theorem dJx4a65c_grow_92f84_14 : decode cJx4a65c_grow_92f84 14 = .ok (.getstatic 39, 3) := by decide +kernel
theorem dJx4a65c_grow_92f84_17 : decode cJx4a65c_grow_92f84 17 = .ok (.if_acmp .eq 28, 3) := by decide +kernel
theorem dJx4a65c_grow_92f84_20 : decode cJx4a65c_grow_92f84 20 = .ok (.iload_n 2, 1) := by decide +kernel
theorem dJx4a65c_grow_92f84_21 : decode cJx4a65c_grow_92f84 21 = .ok (.iload_n 1, 1) := by decide +kernel
theorem dJx4a65c_grow_92f84_22 : decode cJx4a65c_grow_92f84 22 = .ok (.iload_n 2, 1) := by decide +kernel
theorem dJx4a65c_grow_92f84_23 : decode cJx4a65c_grow_92f84 23 = .ok (.isub, 1) := by decide +kernel
theorem dJx4a65c_grow_92f84_24 : decode cJx4a65c_grow_92f84 24 = .ok (.iload_n 2, 1) := by decide +kernel
theorem dJx4a65c_grow_92f84_25 : decode cJx4a65c_grow_92f84 25 = .ok (.iconst 1, 1) := by decide +kernel
theorem dJx4a65c_grow_92f84_26 : decode cJx4a65c_grow_92f84 26 = .ok (.ishr, 1) := by decide +kernel
theorem dJx4a65c_grow_92f84_27 : decode cJx4a65c_grow_92f84 27 = .ok (.invokestatic 73, 3) := by decide +kernel
theorem dJx4a65c_grow_92f84_30 : decode cJx4a65c_grow_92f84 30 = .ok (.istore_n 3, 1) := by decide +kernel
theorem dJx4a65c_grow_92f84_31 : decode cJx4a65c_grow_92f84 31 = .ok (.aload_n 0, 1) := by decide +kernel
theorem dJx4a65c_grow_92f84_32 : decode cJx4a65c_grow_92f84 32 = .ok (.aload_n 0, 1) := by decide +kernel
theorem dJx4a65c_grow_92f84_33 : decode cJx4a65c_grow_92f84 33 = .ok (.getfield 9, 3) := by decide +kernel
theorem dJx4a65c_grow_92f84_36 : decode cJx4a65c_grow_92f84 36 = .ok (.iload_n 3, 1) := by decide +kernel
theorem dJx4a65c_grow_92f84_37 : decode cJx4a65c_grow_92f84 37 = .ok (.invokestatic 66, 3) := by decide +kernel
theorem dJx4a65c_grow_92f84_40 : decode cJx4a65c_grow_92f84 40 = .ok (.dup_x1, 1) := by decide +kernel
theorem dJx4a65c_grow_92f84_41 : decode cJx4a65c_grow_92f84 41 = .ok (.putfield 9, 3) := by decide +kernel
theorem dJx4a65c_grow_92f84_44 : decode cJx4a65c_grow_92f84 44 = .ok (.areturn, 1) := by decide +kernel
theorem dJx4a65c_grow_92f84_45 : decode cJx4a65c_grow_92f84 45 = .ok (.aload_n 0, 1) := by decide +kernel
theorem dJx4a65c_grow_92f84_46 : decode cJx4a65c_grow_92f84 46 = .ok (.bipush 10, 2) := by decide +kernel
theorem dJx4a65c_grow_92f84_48 : decode cJx4a65c_grow_92f84 48 = .ok (.iload_n 1, 1) := by decide +kernel
theorem dJx4a65c_grow_92f84_49 : decode cJx4a65c_grow_92f84 49 = .ok (.invokestatic 79, 3) := by decide +kernel
theorem dJx4a65c_grow_92f84_52 : decode cJx4a65c_grow_92f84 52 = .ok (.anewarray 7, 3) := by decide +kernel
theorem dJx4a65c_grow_92f84_55 : decode cJx4a65c_grow_92f84 55 = .ok (.dup_x1, 1) := by decide +kernel
theorem dJx4a65c_grow_92f84_56 : decode cJx4a65c_grow_92f84 56 = .ok (.putfield 9, 3) := by decide +kernel
theorem dJx4a65c_grow_92f84_59 : decode cJx4a65c_grow_92f84 59 = .ok (.areturn, 1) := by decide +kernel
theorem dJx4a65c_grow_d5877_0 : decode cJx4a65c_grow_d5877 0 = .ok (.aload_n 0, 1) := by decide +kernel
theorem dJx4a65c_grow_d5877_1 : decode cJx4a65c_grow_d5877 1 = .ok (.aload_n 0, 1) := by decide +kernel
theorem dJx4a65c_grow_d5877_2 : decode cJx4a65c_grow_d5877 2 = .ok (.getfield 48, 3) := by decide +kernel
theorem dJx4a65c_grow_d5877_5 : decode cJx4a65c_grow_d5877 5 = .ok (.iconst 1, 1) := by decide +kernel
theorem dJx4a65c_grow_d5877_6 : decode cJx4a65c_grow_d5877 6 = .ok (.iadd, 1) := by decide +kernel
theorem dJx4a65c_grow_d5877_7 : decode cJx4a65c_grow_d5877 7 = .ok (.invokevirtual 69, 3) := by decide +kernel
theorem dJx4a65c_grow_d5877_10 : decode cJx4a65c_grow_d5877 10 = .ok (.areturn, 1) := by decide +kernel
theorem dJx4a65c_size_8abf5_0 : decode cJx4a65c_size_8abf5 0 = .ok (.aload_n 0, 1) := by decide +kernel
theorem dJx4a65c_size_8abf5_1 : decode cJx4a65c_size_8abf5 1 = .ok (.getfield 48, 3) := by decide +kernel
theorem dJx4a65c_size_8abf5_4 : decode cJx4a65c_size_8abf5 4 = .ok (.ireturn, 1) := by decide +kernel
theorem dJx4a65c_elementData_915e3_0 : decode cJx4a65c_elementData_915e3 0 = .ok (.aload_n 0, 1) := by decide +kernel
theorem dJx4a65c_elementData_915e3_1 : decode cJx4a65c_elementData_915e3 1 = .ok (.getfield 9, 3) := by decide +kernel
theorem dJx4a65c_elementData_915e3_4 : decode cJx4a65c_elementData_915e3 4 = .ok (.iload_n 1, 1) := by decide +kernel
theorem dJx4a65c_elementData_915e3_5 : decode cJx4a65c_elementData_915e3 5 = .ok (.aaload, 1) := by decide +kernel
theorem dJx4a65c_elementData_915e3_6 : decode cJx4a65c_elementData_915e3 6 = .ok (.areturn, 1) := by decide +kernel
theorem dJx4a65c_get_915e3_0 : decode cJx4a65c_get_915e3 0 = .ok (.iload_n 1, 1) := by decide +kernel
theorem dJx4a65c_get_915e3_1 : decode cJx4a65c_get_915e3 1 = .ok (.aload_n 0, 1) := by decide +kernel
theorem dJx4a65c_get_915e3_2 : decode cJx4a65c_get_915e3 2 = .ok (.getfield 48, 3) := by decide +kernel
theorem dJx4a65c_get_915e3_5 : decode cJx4a65c_get_915e3 5 = .ok (.invokestatic 118, 3) := by decide +kernel
theorem dJx4a65c_get_915e3_8 : decode cJx4a65c_get_915e3 8 = .ok (.pop, 1) := by decide +kernel
theorem dJx4a65c_get_915e3_9 : decode cJx4a65c_get_915e3 9 = .ok (.aload_n 0, 1) := by decide +kernel
theorem dJx4a65c_get_915e3_10 : decode cJx4a65c_get_915e3 10 = .ok (.iload_n 1, 1) := by decide +kernel
theorem dJx4a65c_get_915e3_11 : decode cJx4a65c_get_915e3 11 = .ok (.invokevirtual 123, 3) := by decide +kernel
theorem dJx4a65c_get_915e3_14 : decode cJx4a65c_get_915e3 14 = .ok (.areturn, 1) := by decide +kernel
theorem dJx4a65c_add_72be8_0 : decode cJx4a65c_add_72be8 0 = .ok (.iload_n 3, 1) := by decide +kernel
theorem dJx4a65c_add_72be8_1 : decode cJx4a65c_add_72be8 1 = .ok (.aload_n 2, 1) := by decide +kernel
theorem dJx4a65c_add_72be8_2 : decode cJx4a65c_add_72be8 2 = .ok (.arraylength, 1) := by decide +kernel
theorem dJx4a65c_add_72be8_3 : decode cJx4a65c_add_72be8 3 = .ok (.if_icmp .ne 8, 3) := by decide +kernel
theorem dJx4a65c_add_72be8_6 : decode cJx4a65c_add_72be8 6 = .ok (.aload_n 0, 1) := by decide +kernel
theorem dJx4a65c_add_72be8_7 : decode cJx4a65c_add_72be8 7 = .ok (.invokevirtual 129, 3) := by decide +kernel
theorem dJx4a65c_add_72be8_10 : decode cJx4a65c_add_72be8 10 = .ok (.astore_n 2, 1) := by decide +kernel
theorem dJx4a65c_add_72be8_11 : decode cJx4a65c_add_72be8 11 = .ok (.aload_n 2, 1) := by decide +kernel
theorem dJx4a65c_add_72be8_12 : decode cJx4a65c_add_72be8 12 = .ok (.iload_n 3, 1) := by decide +kernel
theorem dJx4a65c_add_72be8_13 : decode cJx4a65c_add_72be8 13 = .ok (.aload_n 1, 1) := by decide +kernel
theorem dJx4a65c_add_72be8_14 : decode cJx4a65c_add_72be8 14 = .ok (.aastore, 1) := by decide +kernel
theorem dJx4a65c_add_72be8_15 : decode cJx4a65c_add_72be8 15 = .ok (.aload_n 0, 1) := by decide +kernel
theorem dJx4a65c_add_72be8_16 : decode cJx4a65c_add_72be8 16 = .ok (.iload_n 3, 1) := by decide +kernel
theorem dJx4a65c_add_72be8_17 : decode cJx4a65c_add_72be8 17 = .ok (.iconst 1, 1) := by decide +kernel
theorem dJx4a65c_add_72be8_18 : decode cJx4a65c_add_72be8 18 = .ok (.iadd, 1) := by decide +kernel
theorem dJx4a65c_add_72be8_19 : decode cJx4a65c_add_72be8 19 = .ok (.putfield 48, 3) := by decide +kernel
theorem dJx4a65c_add_72be8_22 : decode cJx4a65c_add_72be8 22 = .ok (.return_, 1) := by decide +kernel
theorem dJx4a65c_add_9ea2d_0 : decode cJx4a65c_add_9ea2d 0 = .ok (.aload_n 0, 1) := by decide +kernel
theorem dJx4a65c_add_9ea2d_1 : decode cJx4a65c_add_9ea2d 1 = .ok (.dup, 1) := by decide +kernel
theorem dJx4a65c_add_9ea2d_2 : decode cJx4a65c_add_9ea2d 2 = .ok (.getfield 63, 3) := by decide +kernel
theorem dJx4a65c_add_9ea2d_5 : decode cJx4a65c_add_9ea2d 5 = .ok (.iconst 1, 1) := by decide +kernel
theorem dJx4a65c_add_9ea2d_6 : decode cJx4a65c_add_9ea2d 6 = .ok (.iadd, 1) := by decide +kernel
theorem dJx4a65c_add_9ea2d_7 : decode cJx4a65c_add_9ea2d 7 = .ok (.putfield 63, 3) := by decide +kernel
theorem dJx4a65c_add_9ea2d_10 : decode cJx4a65c_add_9ea2d 10 = .ok (.aload_n 0, 1) := by decide +kernel
theorem dJx4a65c_add_9ea2d_11 : decode cJx4a65c_add_9ea2d 11 = .ok (.aload_n 1, 1) := by decide +kernel
theorem dJx4a65c_add_9ea2d_12 : decode cJx4a65c_add_9ea2d 12 = .ok (.aload_n 0, 1) := by decide +kernel
theorem dJx4a65c_add_9ea2d_13 : decode cJx4a65c_add_9ea2d 13 = .ok (.getfield 9, 3) := by decide +kernel
theorem dJx4a65c_add_9ea2d_16 : decode cJx4a65c_add_9ea2d 16 = .ok (.aload_n 0, 1) := by decide +kernel
theorem dJx4a65c_add_9ea2d_17 : decode cJx4a65c_add_9ea2d 17 = .ok (.getfield 48, 3) := by decide +kernel
theorem dJx4a65c_add_9ea2d_20 : decode cJx4a65c_add_9ea2d 20 = .ok (.invokevirtual 131, 3) := by decide +kernel
theorem dJx4a65c_add_9ea2d_23 : decode cJx4a65c_add_9ea2d 23 = .ok (.iconst 1, 1) := by decide +kernel
theorem dJx4a65c_add_9ea2d_24 : decode cJx4a65c_add_9ea2d 24 = .ok (.ireturn, 1) := by decide +kernel
theorem dJxa1e45_init_da8c8_0 : decode cJxa1e45_init_da8c8 0 = .ok (.aload_n 0, 1) := by decide +kernel
theorem dJxa1e45_init_da8c8_1 : decode cJxa1e45_init_da8c8 1 = .ok (.invokespecial 1, 3) := by decide +kernel
theorem dJxa1e45_init_da8c8_4 : decode cJxa1e45_init_da8c8 4 = .ok (.return_, 1) := by decide +kernel
theorem dJxc12de_init_da8c8_0 : decode cJxc12de_init_da8c8 0 = .ok (.aload_n 0, 1) := by decide +kernel
theorem dJxc12de_init_da8c8_1 : decode cJxc12de_init_da8c8 1 = .ok (.invokespecial 1, 3) := by decide +kernel
theorem dJxc12de_init_da8c8_4 : decode cJxc12de_init_da8c8 4 = .ok (.aload_n 0, 1) := by decide +kernel
theorem dJxc12de_init_da8c8_5 : decode cJxc12de_init_da8c8 5 = .ok (.iconst 0, 1) := by decide +kernel
theorem dJxc12de_init_da8c8_6 : decode cJxc12de_init_da8c8 6 = .ok (.putfield 7, 3) := by decide +kernel
theorem dJxc12de_init_da8c8_9 : decode cJxc12de_init_da8c8 9 = .ok (.return_, 1) := by decide +kernel
theorem dX0_init_0 : decode cX0_init 0 = .ok (.aload_n 0, 1) := by decide +kernel
theorem dX0_init_1 : decode cX0_init 1 = .ok (.invokespecial 1, 3) := by decide +kernel
theorem dX0_init_4 : decode cX0_init 4 = .ok (.aload_n 0, 1) := by decide +kernel
theorem dX0_init_5 : decode cX0_init 5 = .ok (.new 7, 3) := by decide +kernel
theorem dX0_init_8 : decode cX0_init 8 = .ok (.dup, 1) := by decide +kernel
theorem dX0_init_9 : decode cX0_init 9 = .ok (.invokespecial 9, 3) := by decide +kernel
theorem dX0_init_12 : decode cX0_init 12 = .ok (.putfield 10, 3) := by decide +kernel
theorem dX0_init_15 : decode cX0_init 15 = .ok (.aload_n 0, 1) := by decide +kernel
theorem dX0_init_16 : decode cX0_init 16 = .ok (.aload_n 1, 1) := by decide +kernel
theorem dX0_init_17 : decode cX0_init 17 = .ok (.putfield 16, 3) := by decide +kernel
theorem dX0_init_20 : decode cX0_init 20 = .ok (.return_, 1) := by decide +kernel
theorem dX0_refuses_0 : decode cX0_refuses 0 = .ok (.iconst 0, 1) := by decide +kernel
theorem dX0_refuses_1 : decode cX0_refuses 1 = .ok (.istore_n 3, 1) := by decide +kernel
theorem dX0_refuses_2 : decode cX0_refuses 2 = .ok (.iconst 0, 1) := by decide +kernel
theorem dX0_refuses_3 : decode cX0_refuses 3 = .ok (.istore 4, 2) := by decide +kernel
theorem dX0_refuses_5 : decode cX0_refuses 5 = .ok (.iconst 0, 1) := by decide +kernel
theorem dX0_refuses_6 : decode cX0_refuses 6 = .ok (.istore 5, 2) := by decide +kernel
theorem dX0_refuses_8 : decode cX0_refuses 8 = .ok (.iload 5, 2) := by decide +kernel
theorem dX0_refuses_10 : decode cX0_refuses 10 = .ok (.aload_n 0, 1) := by decide +kernel
theorem dX0_refuses_11 : decode cX0_refuses 11 = .ok (.getfield 10, 3) := by decide +kernel
theorem dX0_refuses_14 : decode cX0_refuses 14 = .ok (.invokevirtual 20, 3) := by decide +kernel
theorem dX0_refuses_17 : decode cX0_refuses 17 = .ok (.if_icmp .ge 56, 3) := by decide +kernel
theorem dX0_refuses_20 : decode cX0_refuses 20 = .ok (.aload_n 0, 1) := by decide +kernel
theorem dX0_refuses_21 : decode cX0_refuses 21 = .ok (.getfield 10, 3) := by decide +kernel
theorem dX0_refuses_24 : decode cX0_refuses 24 = .ok (.iload 5, 2) := by decide +kernel
theorem dX0_refuses_26 : decode cX0_refuses 26 = .ok (.invokevirtual 24, 3) := by decide +kernel
theorem dX0_refuses_29 : decode cX0_refuses 29 = .ok (.checkcast 28, 3) := by decide +kernel
theorem dX0_refuses_32 : decode cX0_refuses 32 = .ok (.astore 6, 2) := by decide +kernel
theorem dX0_refuses_34 : decode cX0_refuses 34 = .ok (.aload 6, 2) := by decide +kernel
theorem dX0_refuses_36 : decode cX0_refuses 36 = .ok (.getfield 30, 3) := by decide +kernel
theorem dX0_refuses_39 : decode cX0_refuses 39 = .ok (.iload_n 1, 1) := by decide +kernel
theorem dX0_refuses_40 : decode cX0_refuses 40 = .ok (.if_icmp .gt 27, 3) := by decide +kernel
theorem dX0_refuses_43 : decode cX0_refuses 43 = .ok (.aload 6, 2) := by decide +kernel
theorem dX0_refuses_45 : decode cX0_refuses 45 = .ok (.getfield 30, 3) := by decide +kernel
theorem dX0_refuses_48 : decode cX0_refuses 48 = .ok (.iload 4, 2) := by decide +kernel
theorem dX0_refuses_50 : decode cX0_refuses 50 = .ok (.if_icmp .lt 17, 3) := by decide +kernel
theorem dX0_refuses_53 : decode cX0_refuses 53 = .ok (.aload 6, 2) := by decide +kernel
theorem dX0_refuses_55 : decode cX0_refuses 55 = .ok (.getfield 30, 3) := by decide +kernel
theorem dX0_refuses_58 : decode cX0_refuses 58 = .ok (.istore 4, 2) := by decide +kernel
theorem dX0_refuses_60 : decode cX0_refuses 60 = .ok (.aload 6, 2) := by decide +kernel
theorem dX0_refuses_62 : decode cX0_refuses 62 = .ok (.aload_n 2, 1) := by decide +kernel
theorem dX0_refuses_63 : decode cX0_refuses 63 = .ok (.invokevirtual 34, 3) := by decide +kernel
theorem dX0_refuses_66 : decode cX0_refuses 66 = .ok (.istore_n 3, 1) := by decide +kernel
theorem dX0_refuses_67 : decode cX0_refuses 67 = .ok (.iinc 5 1, 3) := by decide +kernel
theorem dX0_refuses_70 : decode cX0_refuses 70 = .ok (.goto (-62), 3) := by decide +kernel
theorem dX0_refuses_73 : decode cX0_refuses 73 = .ok (.iload_n 3, 1) := by decide +kernel
theorem dX0_refuses_74 : decode cX0_refuses 74 = .ok (.ireturn, 1) := by decide +kernel
theorem dX1_init_0 : decode cX1_init 0 = .ok (.aload_n 0, 1) := by decide +kernel
theorem dX1_init_1 : decode cX1_init 1 = .ok (.invokespecial 5, 3) := by decide +kernel
theorem dX1_init_4 : decode cX1_init 4 = .ok (.return_, 1) := by decide +kernel
theorem dX1_start_0 : decode cX1_start 0 = .ok (.aload_n 0, 1) := by decide +kernel
theorem dX1_start_1 : decode cX1_start 1 = .ok (.bipush 8, 2) := by decide +kernel
theorem dX1_start_3 : decode cX1_start 3 = .ok (.putfield 11, 3) := by decide +kernel
theorem dX1_start_6 : decode cX1_start 6 = .ok (.aload_n 0, 1) := by decide +kernel
theorem dX1_start_7 : decode cX1_start 7 = .ok (.aload_n 1, 1) := by decide +kernel
theorem dX1_start_8 : decode cX1_start 8 = .ok (.iconst 0, 1) := by decide +kernel
theorem dX1_start_9 : decode cX1_start 9 = .ok (.invokevirtual 15, 3) := by decide +kernel
theorem dX1_start_12 : decode cX1_start 12 = .ok (.putfield 21, 3) := by decide +kernel
theorem dX1_start_15 : decode cX1_start 15 = .ok (.aload_n 0, 1) := by decide +kernel
theorem dX1_start_16 : decode cX1_start 16 = .ok (.iconst 0, 1) := by decide +kernel
theorem dX1_start_17 : decode cX1_start 17 = .ok (.putfield 24, 3) := by decide +kernel
theorem dX1_start_20 : decode cX1_start 20 = .ok (.aload_n 0, 1) := by decide +kernel
theorem dX1_start_21 : decode cX1_start 21 = .ok (.iconst 1, 1) := by decide +kernel
theorem dX1_start_22 : decode cX1_start 22 = .ok (.putfield 27, 3) := by decide +kernel
theorem dX1_start_25 : decode cX1_start 25 = .ok (.aload_n 0, 1) := by decide +kernel
theorem dX1_start_26 : decode cX1_start 26 = .ok (.iconst 1, 1) := by decide +kernel
theorem dX1_start_27 : decode cX1_start 27 = .ok (.putfield 31, 3) := by decide +kernel
theorem dX1_start_30 : decode cX1_start 30 = .ok (.aload_n 0, 1) := by decide +kernel
theorem dX1_start_31 : decode cX1_start 31 = .ok (.iconst 0, 1) := by decide +kernel
theorem dX1_start_32 : decode cX1_start 32 = .ok (.putfield 34, 3) := by decide +kernel
theorem dX1_start_35 : decode cX1_start 35 = .ok (.aload_n 0, 1) := by decide +kernel
theorem dX1_start_36 : decode cX1_start 36 = .ok (.iconst 0, 1) := by decide +kernel
theorem dX1_start_37 : decode cX1_start 37 = .ok (.putfield 37, 3) := by decide +kernel
theorem dX1_start_40 : decode cX1_start 40 = .ok (.aload_n 0, 1) := by decide +kernel
theorem dX1_start_41 : decode cX1_start 41 = .ok (.iconst 0, 1) := by decide +kernel
theorem dX1_start_42 : decode cX1_start 42 = .ok (.putfield 40, 3) := by decide +kernel
theorem dX1_start_45 : decode cX1_start 45 = .ok (.aload_n 0, 1) := by decide +kernel
theorem dX1_start_46 : decode cX1_start 46 = .ok (.iconst 0, 1) := by decide +kernel
theorem dX1_start_47 : decode cX1_start 47 = .ok (.putfield 43, 3) := by decide +kernel
theorem dX1_start_50 : decode cX1_start 50 = .ok (.aload_n 0, 1) := by decide +kernel
theorem dX1_start_51 : decode cX1_start 51 = .ok (.iconst 0, 1) := by decide +kernel
theorem dX1_start_52 : decode cX1_start 52 = .ok (.putfield 46, 3) := by decide +kernel
theorem dX1_start_55 : decode cX1_start 55 = .ok (.aload_n 0, 1) := by decide +kernel
theorem dX1_start_56 : decode cX1_start 56 = .ok (.iconst 0, 1) := by decide +kernel
theorem dX1_start_57 : decode cX1_start 57 = .ok (.putfield 49, 3) := by decide +kernel
theorem dX1_start_60 : decode cX1_start 60 = .ok (.aload_n 0, 1) := by decide +kernel
theorem dX1_start_61 : decode cX1_start 61 = .ok (.iconst 0, 1) := by decide +kernel
theorem dX1_start_62 : decode cX1_start 62 = .ok (.putfield 52, 3) := by decide +kernel
theorem dX1_start_65 : decode cX1_start 65 = .ok (.return_, 1) := by decide +kernel
theorem dX1_isOver_0 : decode cX1_isOver 0 = .ok (.aload_n 0, 1) := by decide +kernel
theorem dX1_isOver_1 : decode cX1_isOver 1 = .ok (.getfield 52, 3) := by decide +kernel
theorem dX1_isOver_4 : decode cX1_isOver 4 = .ok (.ifCond .eq 7, 3) := by decide +kernel
theorem dX1_isOver_7 : decode cX1_isOver 7 = .ok (.iconst 1, 1) := by decide +kernel
theorem dX1_isOver_8 : decode cX1_isOver 8 = .ok (.goto 4, 3) := by decide +kernel
theorem dX1_isOver_11 : decode cX1_isOver 11 = .ok (.iconst 0, 1) := by decide +kernel
theorem dX1_isOver_12 : decode cX1_isOver 12 = .ok (.ireturn, 1) := by decide +kernel
theorem dX1_isHome_0 : decode cX1_isHome 0 = .ok (.aload_n 0, 1) := by decide +kernel
theorem dX1_isHome_1 : decode cX1_isHome 1 = .ok (.getfield 52, 3) := by decide +kernel
theorem dX1_isHome_4 : decode cX1_isHome 4 = .ok (.iconst 1, 1) := by decide +kernel
theorem dX1_isHome_5 : decode cX1_isHome 5 = .ok (.if_icmp .ne 7, 3) := by decide +kernel
theorem dX1_isHome_8 : decode cX1_isHome 8 = .ok (.iconst 1, 1) := by decide +kernel
theorem dX1_isHome_9 : decode cX1_isHome 9 = .ok (.goto 4, 3) := by decide +kernel
theorem dX1_isHome_12 : decode cX1_isHome 12 = .ok (.iconst 0, 1) := by decide +kernel
theorem dX1_isHome_13 : decode cX1_isHome 13 = .ok (.ireturn, 1) := by decide +kernel
theorem dX1_tick_0 : decode cX1_tick 0 = .ok (.iload_n 2, 1) := by decide +kernel
theorem dX1_tick_1 : decode cX1_tick 1 = .ok (.aload_n 0, 1) := by decide +kernel
theorem dX1_tick_2 : decode cX1_tick 2 = .ok (.getfield 34, 3) := by decide +kernel
theorem dX1_tick_5 : decode cX1_tick 5 = .ok (.iconst (-1), 1) := by decide +kernel
theorem dX1_tick_6 : decode cX1_tick 6 = .ok (.ixor, 1) := by decide +kernel
theorem dX1_tick_7 : decode cX1_tick 7 = .ok (.iand, 1) := by decide +kernel
theorem dX1_tick_8 : decode cX1_tick 8 = .ok (.istore_n 3, 1) := by decide +kernel
theorem dX1_tick_9 : decode cX1_tick 9 = .ok (.aload_n 0, 1) := by decide +kernel
theorem dX1_tick_10 : decode cX1_tick 10 = .ok (.iload_n 2, 1) := by decide +kernel
theorem dX1_tick_11 : decode cX1_tick 11 = .ok (.putfield 34, 3) := by decide +kernel
theorem dX1_tick_14 : decode cX1_tick 14 = .ok (.aload_n 0, 1) := by decide +kernel
theorem dX1_tick_15 : decode cX1_tick 15 = .ok (.iload_n 2, 1) := by decide +kernel
theorem dX1_tick_16 : decode cX1_tick 16 = .ok (.iload_n 3, 1) := by decide +kernel
theorem dX1_tick_17 : decode cX1_tick 17 = .ok (.bipush 8, 2) := by decide +kernel
theorem dX1_tick_19 : decode cX1_tick 19 = .ok (.iand, 1) := by decide +kernel
theorem dX1_tick_20 : decode cX1_tick 20 = .ok (.ifCond .eq 7, 3) := by decide +kernel
theorem dX1_tick_23 : decode cX1_tick 23 = .ok (.iconst 1, 1) := by decide +kernel
theorem dX1_tick_24 : decode cX1_tick 24 = .ok (.goto 4, 3) := by decide +kernel
theorem dX1_tick_27 : decode cX1_tick 27 = .ok (.iconst 0, 1) := by decide +kernel
theorem dX1_tick_28 : decode cX1_tick 28 = .ok (.invokevirtual 55, 3) := by decide +kernel
theorem dX1_tick_31 : decode cX1_tick 31 = .ok (.istore 4, 2) := by decide +kernel
theorem dX1_tick_33 : decode cX1_tick 33 = .ok (.iload_n 3, 1) := by decide +kernel
theorem dX1_tick_34 : decode cX1_tick 34 = .ok (.iconst 4, 1) := by decide +kernel
theorem dX1_tick_35 : decode cX1_tick 35 = .ok (.iand, 1) := by decide +kernel
theorem dX1_tick_36 : decode cX1_tick 36 = .ok (.ifCond .eq 31, 3) := by decide +kernel
theorem dX1_tick_39 : decode cX1_tick 39 = .ok (.aload_n 0, 1) := by decide +kernel
theorem dX1_tick_40 : decode cX1_tick 40 = .ok (.getfield 27, 3) := by decide +kernel
theorem dX1_tick_43 : decode cX1_tick 43 = .ok (.ifCond .eq 24, 3) := by decide +kernel
theorem dX1_tick_46 : decode cX1_tick 46 = .ok (.aload_n 0, 1) := by decide +kernel
theorem dX1_tick_47 : decode cX1_tick 47 = .ok (.bipush 14, 2) := by decide +kernel
theorem dX1_tick_49 : decode cX1_tick 49 = .ok (.putfield 24, 3) := by decide +kernel
theorem dX1_tick_52 : decode cX1_tick 52 = .ok (.aload_n 0, 1) := by decide +kernel
theorem dX1_tick_53 : decode cX1_tick 53 = .ok (.iconst 0, 1) := by decide +kernel
theorem dX1_tick_54 : decode cX1_tick 54 = .ok (.putfield 27, 3) := by decide +kernel
theorem dX1_tick_57 : decode cX1_tick 57 = .ok (.aload_n 0, 1) := by decide +kernel
theorem dX1_tick_58 : decode cX1_tick 58 = .ok (.dup, 1) := by decide +kernel
theorem dX1_tick_59 : decode cX1_tick 59 = .ok (.getfield 43, 3) := by decide +kernel
theorem dX1_tick_62 : decode cX1_tick 62 = .ok (.iconst 1, 1) := by decide +kernel
theorem dX1_tick_63 : decode cX1_tick 63 = .ok (.iadd, 1) := by decide +kernel
theorem dX1_tick_64 : decode cX1_tick 64 = .ok (.putfield 43, 3) := by decide +kernel
theorem dX1_tick_67 : decode cX1_tick 67 = .ok (.aload_n 0, 1) := by decide +kernel
theorem dX1_tick_68 : decode cX1_tick 68 = .ok (.aload_n 1, 1) := by decide +kernel
theorem dX1_tick_69 : decode cX1_tick 69 = .ok (.iload 4, 2) := by decide +kernel
theorem dX1_tick_71 : decode cX1_tick 71 = .ok (.invokevirtual 59, 3) := by decide +kernel
theorem dX1_tick_74 : decode cX1_tick 74 = .ok (.aload_n 0, 1) := by decide +kernel
theorem dX1_tick_75 : decode cX1_tick 75 = .ok (.aload_n 1, 1) := by decide +kernel
theorem dX1_tick_76 : decode cX1_tick 76 = .ok (.invokevirtual 63, 3) := by decide +kernel
theorem dX1_tick_79 : decode cX1_tick 79 = .ok (.aload_n 0, 1) := by decide +kernel
theorem dX1_tick_80 : decode cX1_tick 80 = .ok (.getfield 27, 3) := by decide +kernel
theorem dX1_tick_83 : decode cX1_tick 83 = .ok (.ifCond .eq 8, 3) := by decide +kernel
theorem dX1_tick_86 : decode cX1_tick 86 = .ok (.aload_n 0, 1) := by decide +kernel
theorem dX1_tick_87 : decode cX1_tick 87 = .ok (.iconst 1, 1) := by decide +kernel
theorem dX1_tick_88 : decode cX1_tick 88 = .ok (.putfield 31, 3) := by decide +kernel
theorem dX1_tick_91 : decode cX1_tick 91 = .ok (.aload_n 0, 1) := by decide +kernel
theorem dX1_tick_92 : decode cX1_tick 92 = .ok (.aload_n 1, 1) := by decide +kernel
theorem dX1_tick_93 : decode cX1_tick 93 = .ok (.invokevirtual 67, 3) := by decide +kernel
theorem dX1_tick_96 : decode cX1_tick 96 = .ok (.aload_n 0, 1) := by decide +kernel
theorem dX1_tick_97 : decode cX1_tick 97 = .ok (.dup, 1) := by decide +kernel
theorem dX1_tick_98 : decode cX1_tick 98 = .ok (.getfield 49, 3) := by decide +kernel
theorem dX1_tick_101 : decode cX1_tick 101 = .ok (.iconst 1, 1) := by decide +kernel
theorem dX1_tick_102 : decode cX1_tick 102 = .ok (.iadd, 1) := by decide +kernel
theorem dX1_tick_103 : decode cX1_tick 103 = .ok (.putfield 49, 3) := by decide +kernel
theorem dX1_tick_106 : decode cX1_tick 106 = .ok (.aload_n 0, 1) := by decide +kernel
theorem dX1_tick_107 : decode cX1_tick 107 = .ok (.aload_n 1, 1) := by decide +kernel
theorem dX1_tick_108 : decode cX1_tick 108 = .ok (.invokevirtual 70, 3) := by decide +kernel
theorem dX1_tick_111 : decode cX1_tick 111 = .ok (.return_, 1) := by decide +kernel
theorem dX1_columnHere_0 : decode cX1_columnHere 0 = .ok (.aload_n 0, 1) := by decide +kernel
theorem dX1_columnHere_1 : decode cX1_columnHere 1 = .ok (.getfield 11, 3) := by decide +kernel
theorem dX1_columnHere_4 : decode cX1_columnHere 4 = .ok (.bipush 16, 2) := by decide +kernel
theorem dX1_columnHere_6 : decode cX1_columnHere 6 = .ok (.idiv, 1) := by decide +kernel
theorem dX1_columnHere_7 : decode cX1_columnHere 7 = .ok (.ireturn, 1) := by decide +kernel
theorem dX1_choose_0 : decode cX1_choose 0 = .ok (.iconst 0, 1) := by decide +kernel
theorem dX1_choose_1 : decode cX1_choose 1 = .ok (.istore_n 3, 1) := by decide +kernel
theorem dX1_choose_2 : decode cX1_choose 2 = .ok (.iload_n 1, 1) := by decide +kernel
theorem dX1_choose_3 : decode cX1_choose 3 = .ok (.iconst 2, 1) := by decide +kernel
theorem dX1_choose_4 : decode cX1_choose 4 = .ok (.iand, 1) := by decide +kernel
theorem dX1_choose_5 : decode cX1_choose 5 = .ok (.ifCond .eq 6, 3) := by decide +kernel
theorem dX1_choose_8 : decode cX1_choose 8 = .ok (.iinc 3 4, 3) := by decide +kernel
theorem dX1_choose_11 : decode cX1_choose 11 = .ok (.iload_n 1, 1) := by decide +kernel
theorem dX1_choose_12 : decode cX1_choose 12 = .ok (.iconst 1, 1) := by decide +kernel
theorem dX1_choose_13 : decode cX1_choose 13 = .ok (.iand, 1) := by decide +kernel
theorem dX1_choose_14 : decode cX1_choose 14 = .ok (.ifCond .eq 6, 3) := by decide +kernel
theorem dX1_choose_17 : decode cX1_choose 17 = .ok (.iinc 3 (-4), 3) := by decide +kernel
theorem dX1_choose_20 : decode cX1_choose 20 = .ok (.iload_n 2, 1) := by decide +kernel
theorem dX1_choose_21 : decode cX1_choose 21 = .ok (.ifCond .eq 33, 3) := by decide +kernel
theorem dX1_choose_24 : decode cX1_choose 24 = .ok (.iload_n 3, 1) := by decide +kernel
theorem dX1_choose_25 : decode cX1_choose 25 = .ok (.ifCond .eq 29, 3) := by decide +kernel
theorem dX1_choose_28 : decode cX1_choose 28 = .ok (.aload_n 0, 1) := by decide +kernel
theorem dX1_choose_29 : decode cX1_choose 29 = .ok (.getfield 31, 3) := by decide +kernel
theorem dX1_choose_32 : decode cX1_choose 32 = .ok (.ifCond .eq 22, 3) := by decide +kernel
theorem dX1_choose_35 : decode cX1_choose 35 = .ok (.iload_n 3, 1) := by decide +kernel
theorem dX1_choose_36 : decode cX1_choose 36 = .ok (.iconst 5, 1) := by decide +kernel
theorem dX1_choose_37 : decode cX1_choose 37 = .ok (.imul, 1) := by decide +kernel
theorem dX1_choose_38 : decode cX1_choose 38 = .ok (.istore_n 3, 1) := by decide +kernel
theorem dX1_choose_39 : decode cX1_choose 39 = .ok (.aload_n 0, 1) := by decide +kernel
theorem dX1_choose_40 : decode cX1_choose 40 = .ok (.iconst 0, 1) := by decide +kernel
theorem dX1_choose_41 : decode cX1_choose 41 = .ok (.putfield 31, 3) := by decide +kernel
theorem dX1_choose_44 : decode cX1_choose 44 = .ok (.aload_n 0, 1) := by decide +kernel
theorem dX1_choose_45 : decode cX1_choose 45 = .ok (.dup, 1) := by decide +kernel
theorem dX1_choose_46 : decode cX1_choose 46 = .ok (.getfield 46, 3) := by decide +kernel
theorem dX1_choose_49 : decode cX1_choose 49 = .ok (.iconst 2, 1) := by decide +kernel
theorem dX1_choose_50 : decode cX1_choose 50 = .ok (.ior, 1) := by decide +kernel
theorem dX1_choose_51 : decode cX1_choose 51 = .ok (.putfield 46, 3) := by decide +kernel
theorem dX1_choose_54 : decode cX1_choose 54 = .ok (.iload_n 3, 1) := by decide +kernel
theorem dX1_choose_55 : decode cX1_choose 55 = .ok (.ifCond .ge 13, 3) := by decide +kernel
theorem dX1_choose_58 : decode cX1_choose 58 = .ok (.aload_n 0, 1) := by decide +kernel
theorem dX1_choose_59 : decode cX1_choose 59 = .ok (.dup, 1) := by decide +kernel
theorem dX1_choose_60 : decode cX1_choose 60 = .ok (.getfield 46, 3) := by decide +kernel
theorem dX1_choose_63 : decode cX1_choose 63 = .ok (.iconst 1, 1) := by decide +kernel
theorem dX1_choose_64 : decode cX1_choose 64 = .ok (.ior, 1) := by decide +kernel
theorem dX1_choose_65 : decode cX1_choose 65 = .ok (.putfield 46, 3) := by decide +kernel
theorem dX1_choose_68 : decode cX1_choose 68 = .ok (.iload_n 3, 1) := by decide +kernel
theorem dX1_choose_69 : decode cX1_choose 69 = .ok (.ireturn, 1) := by decide +kernel
theorem dX1_go_0 : decode cX1_go 0 = .ok (.iconst 0, 1) := by decide +kernel
theorem dX1_go_1 : decode cX1_go 1 = .ok (.sipush 511, 3) := by decide +kernel
theorem dX1_go_4 : decode cX1_go 4 = .ok (.aload_n 0, 1) := by decide +kernel
theorem dX1_go_5 : decode cX1_go 5 = .ok (.getfield 11, 3) := by decide +kernel
theorem dX1_go_8 : decode cX1_go 8 = .ok (.iload_n 2, 1) := by decide +kernel
theorem dX1_go_9 : decode cX1_go 9 = .ok (.iadd, 1) := by decide +kernel
theorem dX1_go_10 : decode cX1_go 10 = .ok (.invokestatic 73, 3) := by decide +kernel
theorem dX1_go_13 : decode cX1_go 13 = .ok (.invokestatic 79, 3) := by decide +kernel
theorem dX1_go_16 : decode cX1_go 16 = .ok (.istore_n 3, 1) := by decide +kernel
theorem dX1_go_17 : decode cX1_go 17 = .ok (.aload_n 0, 1) := by decide +kernel
theorem dX1_go_18 : decode cX1_go 18 = .ok (.invokevirtual 82, 3) := by decide +kernel
theorem dX1_go_21 : decode cX1_go 21 = .ok (.istore 4, 2) := by decide +kernel
theorem dX1_go_23 : decode cX1_go 23 = .ok (.iload_n 3, 1) := by decide +kernel
theorem dX1_go_24 : decode cX1_go 24 = .ok (.bipush 16, 2) := by decide +kernel
theorem dX1_go_26 : decode cX1_go 26 = .ok (.idiv, 1) := by decide +kernel
theorem dX1_go_27 : decode cX1_go 27 = .ok (.istore 5, 2) := by decide +kernel
theorem dX1_go_29 : decode cX1_go 29 = .ok (.aload_n 1, 1) := by decide +kernel
theorem dX1_go_30 : decode cX1_go 30 = .ok (.iload 5, 2) := by decide +kernel
theorem dX1_go_32 : decode cX1_go 32 = .ok (.aload_n 0, 1) := by decide +kernel
theorem dX1_go_33 : decode cX1_go 33 = .ok (.getfield 21, 3) := by decide +kernel
theorem dX1_go_36 : decode cX1_go 36 = .ok (.invokevirtual 86, 3) := by decide +kernel
theorem dX1_go_39 : decode cX1_go 39 = .ok (.ifCond .eq 4, 3) := by decide +kernel
theorem dX1_go_42 : decode cX1_go 42 = .ok (.return_, 1) := by decide +kernel
theorem dX1_go_43 : decode cX1_go 43 = .ok (.aload_n 0, 1) := by decide +kernel
theorem dX1_go_44 : decode cX1_go 44 = .ok (.iload_n 3, 1) := by decide +kernel
theorem dX1_go_45 : decode cX1_go 45 = .ok (.putfield 11, 3) := by decide +kernel
theorem dX1_go_48 : decode cX1_go 48 = .ok (.iload 4, 2) := by decide +kernel
theorem dX1_go_50 : decode cX1_go 50 = .ok (.iload 5, 2) := by decide +kernel
theorem dX1_go_52 : decode cX1_go 52 = .ok (.invokestatic 73, 3) := by decide +kernel
theorem dX1_go_55 : decode cX1_go 55 = .ok (.iconst 1, 1) := by decide +kernel
theorem dX1_go_56 : decode cX1_go 56 = .ok (.iadd, 1) := by decide +kernel
theorem dX1_go_57 : decode cX1_go 57 = .ok (.istore 6, 2) := by decide +kernel
theorem dX1_go_59 : decode cX1_go 59 = .ok (.iload 6, 2) := by decide +kernel
theorem dX1_go_61 : decode cX1_go 61 = .ok (.iload 4, 2) := by decide +kernel
theorem dX1_go_63 : decode cX1_go 63 = .ok (.iload 5, 2) := by decide +kernel
theorem dX1_go_65 : decode cX1_go 65 = .ok (.invokestatic 79, 3) := by decide +kernel
theorem dX1_go_68 : decode cX1_go 68 = .ok (.if_icmp .ge 32, 3) := by decide +kernel
theorem dX1_go_71 : decode cX1_go 71 = .ok (.aload_n 1, 1) := by decide +kernel
theorem dX1_go_72 : decode cX1_go 72 = .ok (.iload 6, 2) := by decide +kernel
theorem dX1_go_74 : decode cX1_go 74 = .ok (.aload_n 0, 1) := by decide +kernel
theorem dX1_go_75 : decode cX1_go 75 = .ok (.getfield 21, 3) := by decide +kernel
theorem dX1_go_78 : decode cX1_go 78 = .ok (.invokevirtual 86, 3) := by decide +kernel
theorem dX1_go_81 : decode cX1_go 81 = .ok (.ifCond .eq 13, 3) := by decide +kernel
theorem dX1_go_84 : decode cX1_go 84 = .ok (.aload_n 0, 1) := by decide +kernel
theorem dX1_go_85 : decode cX1_go 85 = .ok (.dup, 1) := by decide +kernel
theorem dX1_go_86 : decode cX1_go 86 = .ok (.getfield 46, 3) := by decide +kernel
theorem dX1_go_89 : decode cX1_go 89 = .ok (.iconst 4, 1) := by decide +kernel
theorem dX1_go_90 : decode cX1_go 90 = .ok (.ior, 1) := by decide +kernel
theorem dX1_go_91 : decode cX1_go 91 = .ok (.putfield 46, 3) := by decide +kernel
theorem dX1_go_94 : decode cX1_go 94 = .ok (.iinc 6 1, 3) := by decide +kernel
theorem dX1_go_97 : decode cX1_go 97 = .ok (.goto (-38), 3) := by decide +kernel
theorem dX1_go_100 : decode cX1_go 100 = .ok (.return_, 1) := by decide +kernel
theorem dX1_fall_0 : decode cX1_fall 0 = .ok (.aload_n 0, 1) := by decide +kernel
theorem dX1_fall_1 : decode cX1_fall 1 = .ok (.invokevirtual 82, 3) := by decide +kernel
theorem dX1_fall_4 : decode cX1_fall 4 = .ok (.istore_n 2, 1) := by decide +kernel
theorem dX1_fall_5 : decode cX1_fall 5 = .ok (.aload_n 1, 1) := by decide +kernel
theorem dX1_fall_6 : decode cX1_fall 6 = .ok (.iload_n 2, 1) := by decide +kernel
theorem dX1_fall_7 : decode cX1_fall 7 = .ok (.invokevirtual 90, 3) := by decide +kernel
theorem dX1_fall_10 : decode cX1_fall 10 = .ok (.istore_n 3, 1) := by decide +kernel
theorem dX1_fall_11 : decode cX1_fall 11 = .ok (.aload_n 1, 1) := by decide +kernel
theorem dX1_fall_12 : decode cX1_fall 12 = .ok (.iload_n 2, 1) := by decide +kernel
theorem dX1_fall_13 : decode cX1_fall 13 = .ok (.invokevirtual 15, 3) := by decide +kernel
theorem dX1_fall_16 : decode cX1_fall 16 = .ok (.istore 4, 2) := by decide +kernel
theorem dX1_fall_18 : decode cX1_fall 18 = .ok (.aload_n 0, 1) := by decide +kernel
theorem dX1_fall_19 : decode cX1_fall 19 = .ok (.getfield 27, 3) := by decide +kernel
theorem dX1_fall_22 : decode cX1_fall 22 = .ok (.ifCond .eq 26, 3) := by decide +kernel
theorem dX1_fall_25 : decode cX1_fall 25 = .ok (.iload_n 3, 1) := by decide +kernel
theorem dX1_fall_26 : decode cX1_fall 26 = .ok (.ifCond .ne 12, 3) := by decide +kernel
theorem dX1_fall_29 : decode cX1_fall 29 = .ok (.iload 4, 2) := by decide +kernel
theorem dX1_fall_31 : decode cX1_fall 31 = .ok (.aload_n 0, 1) := by decide +kernel
theorem dX1_fall_32 : decode cX1_fall 32 = .ok (.getfield 21, 3) := by decide +kernel
theorem dX1_fall_35 : decode cX1_fall 35 = .ok (.if_icmp .ge 13, 3) := by decide +kernel
theorem dX1_fall_38 : decode cX1_fall 38 = .ok (.aload_n 0, 1) := by decide +kernel
theorem dX1_fall_39 : decode cX1_fall 39 = .ok (.iconst 0, 1) := by decide +kernel
theorem dX1_fall_40 : decode cX1_fall 40 = .ok (.putfield 27, 3) := by decide +kernel
theorem dX1_fall_43 : decode cX1_fall 43 = .ok (.aload_n 0, 1) := by decide +kernel
theorem dX1_fall_44 : decode cX1_fall 44 = .ok (.iconst 0, 1) := by decide +kernel
theorem dX1_fall_45 : decode cX1_fall 45 = .ok (.putfield 24, 3) := by decide +kernel
theorem dX1_fall_48 : decode cX1_fall 48 = .ok (.aload_n 0, 1) := by decide +kernel
theorem dX1_fall_49 : decode cX1_fall 49 = .ok (.getfield 27, 3) := by decide +kernel
theorem dX1_fall_52 : decode cX1_fall 52 = .ok (.ifCond .ne 67, 3) := by decide +kernel
theorem dX1_fall_55 : decode cX1_fall 55 = .ok (.aload_n 0, 1) := by decide +kernel
theorem dX1_fall_56 : decode cX1_fall 56 = .ok (.bipush (-14), 2) := by decide +kernel
theorem dX1_fall_58 : decode cX1_fall 58 = .ok (.aload_n 0, 1) := by decide +kernel
theorem dX1_fall_59 : decode cX1_fall 59 = .ok (.getfield 24, 3) := by decide +kernel
theorem dX1_fall_62 : decode cX1_fall 62 = .ok (.iconst 2, 1) := by decide +kernel
theorem dX1_fall_63 : decode cX1_fall 63 = .ok (.isub, 1) := by decide +kernel
theorem dX1_fall_64 : decode cX1_fall 64 = .ok (.invokestatic 79, 3) := by decide +kernel
theorem dX1_fall_67 : decode cX1_fall 67 = .ok (.putfield 24, 3) := by decide +kernel
theorem dX1_fall_70 : decode cX1_fall 70 = .ok (.aload_n 0, 1) := by decide +kernel
theorem dX1_fall_71 : decode cX1_fall 71 = .ok (.dup, 1) := by decide +kernel
theorem dX1_fall_72 : decode cX1_fall 72 = .ok (.getfield 21, 3) := by decide +kernel
theorem dX1_fall_75 : decode cX1_fall 75 = .ok (.aload_n 0, 1) := by decide +kernel
theorem dX1_fall_76 : decode cX1_fall 76 = .ok (.getfield 24, 3) := by decide +kernel
theorem dX1_fall_79 : decode cX1_fall 79 = .ok (.iadd, 1) := by decide +kernel
theorem dX1_fall_80 : decode cX1_fall 80 = .ok (.putfield 21, 3) := by decide +kernel
theorem dX1_fall_83 : decode cX1_fall 83 = .ok (.iload_n 3, 1) := by decide +kernel
theorem dX1_fall_84 : decode cX1_fall 84 = .ok (.ifCond .ne 35, 3) := by decide +kernel
theorem dX1_fall_87 : decode cX1_fall 87 = .ok (.aload_n 0, 1) := by decide +kernel
theorem dX1_fall_88 : decode cX1_fall 88 = .ok (.getfield 24, 3) := by decide +kernel
theorem dX1_fall_91 : decode cX1_fall 91 = .ok (.ifCond .gt 28, 3) := by decide +kernel
theorem dX1_fall_94 : decode cX1_fall 94 = .ok (.aload_n 0, 1) := by decide +kernel
theorem dX1_fall_95 : decode cX1_fall 95 = .ok (.getfield 21, 3) := by decide +kernel
theorem dX1_fall_98 : decode cX1_fall 98 = .ok (.iload 4, 2) := by decide +kernel
theorem dX1_fall_100 : decode cX1_fall 100 = .ok (.if_icmp .gt 19, 3) := by decide +kernel
theorem dX1_fall_103 : decode cX1_fall 103 = .ok (.aload_n 0, 1) := by decide +kernel
theorem dX1_fall_104 : decode cX1_fall 104 = .ok (.iload 4, 2) := by decide +kernel
theorem dX1_fall_106 : decode cX1_fall 106 = .ok (.putfield 21, 3) := by decide +kernel
theorem dX1_fall_109 : decode cX1_fall 109 = .ok (.aload_n 0, 1) := by decide +kernel
theorem dX1_fall_110 : decode cX1_fall 110 = .ok (.iconst 1, 1) := by decide +kernel
theorem dX1_fall_111 : decode cX1_fall 111 = .ok (.putfield 27, 3) := by decide +kernel
theorem dX1_fall_114 : decode cX1_fall 114 = .ok (.aload_n 0, 1) := by decide +kernel
theorem dX1_fall_115 : decode cX1_fall 115 = .ok (.iconst 0, 1) := by decide +kernel
theorem dX1_fall_116 : decode cX1_fall 116 = .ok (.putfield 24, 3) := by decide +kernel
theorem dX1_fall_119 : decode cX1_fall 119 = .ok (.return_, 1) := by decide +kernel
theorem dX1_takeCoin_0 : decode cX1_takeCoin 0 = .ok (.aload_n 0, 1) := by decide +kernel
theorem dX1_takeCoin_1 : decode cX1_takeCoin 1 = .ok (.invokevirtual 82, 3) := by decide +kernel
theorem dX1_takeCoin_4 : decode cX1_takeCoin 4 = .ok (.istore_n 2, 1) := by decide +kernel
theorem dX1_takeCoin_5 : decode cX1_takeCoin 5 = .ok (.aload_n 0, 1) := by decide +kernel
theorem dX1_takeCoin_6 : decode cX1_takeCoin 6 = .ok (.getfield 37, 3) := by decide +kernel
theorem dX1_takeCoin_9 : decode cX1_takeCoin 9 = .ok (.iconst 1, 1) := by decide +kernel
theorem dX1_takeCoin_10 : decode cX1_takeCoin 10 = .ok (.iload_n 2, 1) := by decide +kernel
theorem dX1_takeCoin_11 : decode cX1_takeCoin 11 = .ok (.ishl, 1) := by decide +kernel
theorem dX1_takeCoin_12 : decode cX1_takeCoin 12 = .ok (.iand, 1) := by decide +kernel
theorem dX1_takeCoin_13 : decode cX1_takeCoin 13 = .ok (.ifCond .eq 7, 3) := by decide +kernel
theorem dX1_takeCoin_16 : decode cX1_takeCoin 16 = .ok (.iconst 1, 1) := by decide +kernel
theorem dX1_takeCoin_17 : decode cX1_takeCoin 17 = .ok (.goto 4, 3) := by decide +kernel
theorem dX1_takeCoin_20 : decode cX1_takeCoin 20 = .ok (.iconst 0, 1) := by decide +kernel
theorem dX1_takeCoin_21 : decode cX1_takeCoin 21 = .ok (.istore_n 3, 1) := by decide +kernel
theorem dX1_takeCoin_22 : decode cX1_takeCoin 22 = .ok (.iload_n 3, 1) := by decide +kernel
theorem dX1_takeCoin_23 : decode cX1_takeCoin 23 = .ok (.ifCond .ne 49, 3) := by decide +kernel
theorem dX1_takeCoin_26 : decode cX1_takeCoin 26 = .ok (.aload_n 1, 1) := by decide +kernel
theorem dX1_takeCoin_27 : decode cX1_takeCoin 27 = .ok (.iload_n 2, 1) := by decide +kernel
theorem dX1_takeCoin_28 : decode cX1_takeCoin 28 = .ok (.iconst 1, 1) := by decide +kernel
theorem dX1_takeCoin_29 : decode cX1_takeCoin 29 = .ok (.invokevirtual 94, 3) := by decide +kernel
theorem dX1_takeCoin_32 : decode cX1_takeCoin 32 = .ok (.ifCond .eq 40, 3) := by decide +kernel
theorem dX1_takeCoin_35 : decode cX1_takeCoin 35 = .ok (.aload_n 0, 1) := by decide +kernel
theorem dX1_takeCoin_36 : decode cX1_takeCoin 36 = .ok (.getfield 21, 3) := by decide +kernel
theorem dX1_takeCoin_39 : decode cX1_takeCoin 39 = .ok (.aload_n 1, 1) := by decide +kernel
theorem dX1_takeCoin_40 : decode cX1_takeCoin 40 = .ok (.iload_n 2, 1) := by decide +kernel
theorem dX1_takeCoin_41 : decode cX1_takeCoin 41 = .ok (.invokevirtual 15, 3) := by decide +kernel
theorem dX1_takeCoin_44 : decode cX1_takeCoin 44 = .ok (.isub, 1) := by decide +kernel
theorem dX1_takeCoin_45 : decode cX1_takeCoin 45 = .ok (.bipush 24, 2) := by decide +kernel
theorem dX1_takeCoin_47 : decode cX1_takeCoin 47 = .ok (.if_icmp .gt 25, 3) := by decide +kernel
theorem dX1_takeCoin_50 : decode cX1_takeCoin 50 = .ok (.aload_n 0, 1) := by decide +kernel
theorem dX1_takeCoin_51 : decode cX1_takeCoin 51 = .ok (.dup, 1) := by decide +kernel
theorem dX1_takeCoin_52 : decode cX1_takeCoin 52 = .ok (.getfield 37, 3) := by decide +kernel
theorem dX1_takeCoin_55 : decode cX1_takeCoin 55 = .ok (.iconst 1, 1) := by decide +kernel
theorem dX1_takeCoin_56 : decode cX1_takeCoin 56 = .ok (.iload_n 2, 1) := by decide +kernel
theorem dX1_takeCoin_57 : decode cX1_takeCoin 57 = .ok (.ishl, 1) := by decide +kernel
theorem dX1_takeCoin_58 : decode cX1_takeCoin 58 = .ok (.ior, 1) := by decide +kernel
theorem dX1_takeCoin_59 : decode cX1_takeCoin 59 = .ok (.putfield 37, 3) := by decide +kernel
theorem dX1_takeCoin_62 : decode cX1_takeCoin 62 = .ok (.aload_n 0, 1) := by decide +kernel
theorem dX1_takeCoin_63 : decode cX1_takeCoin 63 = .ok (.dup, 1) := by decide +kernel
theorem dX1_takeCoin_64 : decode cX1_takeCoin 64 = .ok (.getfield 40, 3) := by decide +kernel
theorem dX1_takeCoin_67 : decode cX1_takeCoin 67 = .ok (.iconst 1, 1) := by decide +kernel
theorem dX1_takeCoin_68 : decode cX1_takeCoin 68 = .ok (.iadd, 1) := by decide +kernel
theorem dX1_takeCoin_69 : decode cX1_takeCoin 69 = .ok (.putfield 40, 3) := by decide +kernel
theorem dX1_takeCoin_72 : decode cX1_takeCoin 72 = .ok (.return_, 1) := by decide +kernel
theorem dX1_finish_0 : decode cX1_finish 0 = .ok (.aload_n 0, 1) := by decide +kernel
theorem dX1_finish_1 : decode cX1_finish 1 = .ok (.getfield 21, 3) := by decide +kernel
theorem dX1_finish_4 : decode cX1_finish 4 = .ok (.bipush (-32), 2) := by decide +kernel
theorem dX1_finish_6 : decode cX1_finish 6 = .ok (.if_icmp .lt 22, 3) := by decide +kernel
theorem dX1_finish_9 : decode cX1_finish 9 = .ok (.aload_n 0, 1) := by decide +kernel
theorem dX1_finish_10 : decode cX1_finish 10 = .ok (.getfield 27, 3) := by decide +kernel
theorem dX1_finish_13 : decode cX1_finish 13 = .ok (.ifCond .eq 23, 3) := by decide +kernel
theorem dX1_finish_16 : decode cX1_finish 16 = .ok (.aload_n 1, 1) := by decide +kernel
theorem dX1_finish_17 : decode cX1_finish 17 = .ok (.aload_n 0, 1) := by decide +kernel
theorem dX1_finish_18 : decode cX1_finish 18 = .ok (.invokevirtual 82, 3) := by decide +kernel
theorem dX1_finish_21 : decode cX1_finish 21 = .ok (.iconst 2, 1) := by decide +kernel
theorem dX1_finish_22 : decode cX1_finish 22 = .ok (.invokevirtual 94, 3) := by decide +kernel
theorem dX1_finish_25 : decode cX1_finish 25 = .ok (.ifCond .eq 11, 3) := by decide +kernel
theorem dX1_finish_28 : decode cX1_finish 28 = .ok (.aload_n 0, 1) := by decide +kernel
theorem dX1_finish_29 : decode cX1_finish 29 = .ok (.iconst 2, 1) := by decide +kernel
theorem dX1_finish_30 : decode cX1_finish 30 = .ok (.putfield 52, 3) := by decide +kernel
theorem dX1_finish_33 : decode cX1_finish 33 = .ok (.goto 17, 3) := by decide +kernel
theorem dX1_finish_36 : decode cX1_finish 36 = .ok (.aload_n 0, 1) := by decide +kernel
theorem dX1_finish_37 : decode cX1_finish 37 = .ok (.invokevirtual 82, 3) := by decide +kernel
theorem dX1_finish_40 : decode cX1_finish 40 = .ok (.bipush 31, 2) := by decide +kernel
theorem dX1_finish_42 : decode cX1_finish 42 = .ok (.if_icmp .ne 8, 3) := by decide +kernel
theorem dX1_finish_45 : decode cX1_finish 45 = .ok (.aload_n 0, 1) := by decide +kernel
theorem dX1_finish_46 : decode cX1_finish 46 = .ok (.iconst 1, 1) := by decide +kernel
theorem dX1_finish_47 : decode cX1_finish 47 = .ok (.putfield 52, 3) := by decide +kernel
theorem dX1_finish_50 : decode cX1_finish 50 = .ok (.return_, 1) := by decide +kernel
theorem dX2_init_0 : decode cX2_init 0 = .ok (.aload_n 0, 1) := by decide +kernel
theorem dX2_init_1 : decode cX2_init 1 = .ok (.invokespecial 3, 3) := by decide +kernel
theorem dX2_init_4 : decode cX2_init 4 = .ok (.aload_n 0, 1) := by decide +kernel
theorem dX2_init_5 : decode cX2_init 5 = .ok (.bipush 32, 2) := by decide +kernel
theorem dX2_init_7 : decode cX2_init 7 = .ok (.newarray .boolean, 2) := by decide +kernel
theorem dX2_init_9 : decode cX2_init 9 = .ok (.putfield 9, 3) := by decide +kernel
theorem dX2_init_12 : decode cX2_init 12 = .ok (.aload_n 0, 1) := by decide +kernel
theorem dX2_init_13 : decode cX2_init 13 = .ok (.bipush 32, 2) := by decide +kernel
theorem dX2_init_15 : decode cX2_init 15 = .ok (.newarray .int, 2) := by decide +kernel
theorem dX2_init_17 : decode cX2_init 17 = .ok (.putfield 15, 3) := by decide +kernel
theorem dX2_init_20 : decode cX2_init 20 = .ok (.aload_n 0, 1) := by decide +kernel
theorem dX2_init_21 : decode cX2_init 21 = .ok (.bipush 32, 2) := by decide +kernel
theorem dX2_init_23 : decode cX2_init 23 = .ok (.newarray .int, 2) := by decide +kernel
theorem dX2_init_25 : decode cX2_init 25 = .ok (.putfield 19, 3) := by decide +kernel
theorem dX2_init_28 : decode cX2_init 28 = .ok (.return_, 1) := by decide +kernel
theorem dX2_change_0 : decode cX2_change 0 = .ok (.iload_n 1, 1) := by decide +kernel
theorem dX2_change_1 : decode cX2_change 1 = .ok (.ifCond .lt 51, 3) := by decide +kernel
theorem dX2_change_4 : decode cX2_change 4 = .ok (.iload_n 1, 1) := by decide +kernel
theorem dX2_change_5 : decode cX2_change 5 = .ok (.bipush 32, 2) := by decide +kernel
theorem dX2_change_7 : decode cX2_change 7 = .ok (.if_icmp .ge 45, 3) := by decide +kernel
theorem dX2_change_10 : decode cX2_change 10 = .ok (.aload_n 0, 1) := by decide +kernel
theorem dX2_change_11 : decode cX2_change 11 = .ok (.getfield 9, 3) := by decide +kernel
theorem dX2_change_14 : decode cX2_change 14 = .ok (.iload_n 1, 1) := by decide +kernel
theorem dX2_change_15 : decode cX2_change 15 = .ok (.iload_n 2, 1) := by decide +kernel
theorem dX2_change_16 : decode cX2_change 16 = .ok (.iconst (-1), 1) := by decide +kernel
theorem dX2_change_17 : decode cX2_change 17 = .ok (.if_icmp .ne 7, 3) := by decide +kernel
theorem dX2_change_20 : decode cX2_change 20 = .ok (.iconst 1, 1) := by decide +kernel
theorem dX2_change_21 : decode cX2_change 21 = .ok (.goto 4, 3) := by decide +kernel
theorem dX2_change_24 : decode cX2_change 24 = .ok (.iconst 0, 1) := by decide +kernel
theorem dX2_change_25 : decode cX2_change 25 = .ok (.bastore, 1) := by decide +kernel
theorem dX2_change_26 : decode cX2_change 26 = .ok (.aload_n 0, 1) := by decide +kernel
theorem dX2_change_27 : decode cX2_change 27 = .ok (.getfield 15, 3) := by decide +kernel
theorem dX2_change_30 : decode cX2_change 30 = .ok (.iload_n 1, 1) := by decide +kernel
theorem dX2_change_31 : decode cX2_change 31 = .ok (.iload_n 2, 1) := by decide +kernel
theorem dX2_change_32 : decode cX2_change 32 = .ok (.iconst (-1), 1) := by decide +kernel
theorem dX2_change_33 : decode cX2_change 33 = .ok (.if_icmp .ne 7, 3) := by decide +kernel
theorem dX2_change_36 : decode cX2_change 36 = .ok (.iconst 0, 1) := by decide +kernel
theorem dX2_change_37 : decode cX2_change 37 = .ok (.goto 7, 3) := by decide +kernel
theorem dX2_change_40 : decode cX2_change 40 = .ok (.bipush 16, 2) := by decide +kernel
theorem dX2_change_42 : decode cX2_change 42 = .ok (.iload_n 2, 1) := by decide +kernel
theorem dX2_change_43 : decode cX2_change 43 = .ok (.imul, 1) := by decide +kernel
theorem dX2_change_44 : decode cX2_change 44 = .ok (.iastore, 1) := by decide +kernel
theorem dX2_change_45 : decode cX2_change 45 = .ok (.aload_n 0, 1) := by decide +kernel
theorem dX2_change_46 : decode cX2_change 46 = .ok (.getfield 19, 3) := by decide +kernel
theorem dX2_change_49 : decode cX2_change 49 = .ok (.iload_n 1, 1) := by decide +kernel
theorem dX2_change_50 : decode cX2_change 50 = .ok (.iload_n 3, 1) := by decide +kernel
theorem dX2_change_51 : decode cX2_change 51 = .ok (.iastore, 1) := by decide +kernel
theorem dX2_change_52 : decode cX2_change 52 = .ok (.return_, 1) := by decide +kernel
theorem dX2_isGap_0 : decode cX2_isGap 0 = .ok (.iload_n 1, 1) := by decide +kernel
theorem dX2_isGap_1 : decode cX2_isGap 1 = .ok (.ifCond .lt 18, 3) := by decide +kernel
theorem dX2_isGap_4 : decode cX2_isGap 4 = .ok (.iload_n 1, 1) := by decide +kernel
theorem dX2_isGap_5 : decode cX2_isGap 5 = .ok (.bipush 32, 2) := by decide +kernel
theorem dX2_isGap_7 : decode cX2_isGap 7 = .ok (.if_icmp .ge 12, 3) := by decide +kernel
theorem dX2_isGap_10 : decode cX2_isGap 10 = .ok (.aload_n 0, 1) := by decide +kernel
theorem dX2_isGap_11 : decode cX2_isGap 11 = .ok (.getfield 9, 3) := by decide +kernel
theorem dX2_isGap_14 : decode cX2_isGap 14 = .ok (.iload_n 1, 1) := by decide +kernel
theorem dX2_isGap_15 : decode cX2_isGap 15 = .ok (.baload, 1) := by decide +kernel
theorem dX2_isGap_16 : decode cX2_isGap 16 = .ok (.ifCond .eq 7, 3) := by decide +kernel
theorem dX2_isGap_19 : decode cX2_isGap 19 = .ok (.iconst 1, 1) := by decide +kernel
theorem dX2_isGap_20 : decode cX2_isGap 20 = .ok (.goto 4, 3) := by decide +kernel
theorem dX2_isGap_23 : decode cX2_isGap 23 = .ok (.iconst 0, 1) := by decide +kernel
theorem dX2_isGap_24 : decode cX2_isGap 24 = .ok (.ireturn, 1) := by decide +kernel
theorem dX2_base_0 : decode cX2_base 0 = .ok (.iload_n 1, 1) := by decide +kernel
theorem dX2_base_1 : decode cX2_base 1 = .ok (.ifCond .lt 18, 3) := by decide +kernel
theorem dX2_base_4 : decode cX2_base 4 = .ok (.iload_n 1, 1) := by decide +kernel
theorem dX2_base_5 : decode cX2_base 5 = .ok (.bipush 32, 2) := by decide +kernel
theorem dX2_base_7 : decode cX2_base 7 = .ok (.if_icmp .ge 12, 3) := by decide +kernel
theorem dX2_base_10 : decode cX2_base 10 = .ok (.aload_n 0, 1) := by decide +kernel
theorem dX2_base_11 : decode cX2_base 11 = .ok (.getfield 15, 3) := by decide +kernel
theorem dX2_base_14 : decode cX2_base 14 = .ok (.iload_n 1, 1) := by decide +kernel
theorem dX2_base_15 : decode cX2_base 15 = .ok (.iaload, 1) := by decide +kernel
theorem dX2_base_16 : decode cX2_base 16 = .ok (.goto 4, 3) := by decide +kernel
theorem dX2_base_19 : decode cX2_base 19 = .ok (.iconst 0, 1) := by decide +kernel
theorem dX2_base_20 : decode cX2_base 20 = .ok (.ireturn, 1) := by decide +kernel
theorem dX2_isFloorAbove_0 : decode cX2_isFloorAbove 0 = .ok (.iload_n 1, 1) := by decide +kernel
theorem dX2_isFloorAbove_1 : decode cX2_isFloorAbove 1 = .ok (.ifCond .lt 32, 3) := by decide +kernel
theorem dX2_isFloorAbove_4 : decode cX2_isFloorAbove 4 = .ok (.iload_n 1, 1) := by decide +kernel
theorem dX2_isFloorAbove_5 : decode cX2_isFloorAbove 5 = .ok (.bipush 32, 2) := by decide +kernel
theorem dX2_isFloorAbove_7 : decode cX2_isFloorAbove 7 = .ok (.if_icmp .ge 26, 3) := by decide +kernel
theorem dX2_isFloorAbove_10 : decode cX2_isFloorAbove 10 = .ok (.aload_n 0, 1) := by decide +kernel
theorem dX2_isFloorAbove_11 : decode cX2_isFloorAbove 11 = .ok (.getfield 9, 3) := by decide +kernel
theorem dX2_isFloorAbove_14 : decode cX2_isFloorAbove 14 = .ok (.iload_n 1, 1) := by decide +kernel
theorem dX2_isFloorAbove_15 : decode cX2_isFloorAbove 15 = .ok (.baload, 1) := by decide +kernel
theorem dX2_isFloorAbove_16 : decode cX2_isFloorAbove 16 = .ok (.ifCond .ne 17, 3) := by decide +kernel
theorem dX2_isFloorAbove_19 : decode cX2_isFloorAbove 19 = .ok (.aload_n 0, 1) := by decide +kernel
theorem dX2_isFloorAbove_20 : decode cX2_isFloorAbove 20 = .ok (.getfield 15, 3) := by decide +kernel
theorem dX2_isFloorAbove_23 : decode cX2_isFloorAbove 23 = .ok (.iload_n 1, 1) := by decide +kernel
theorem dX2_isFloorAbove_24 : decode cX2_isFloorAbove 24 = .ok (.iaload, 1) := by decide +kernel
theorem dX2_isFloorAbove_25 : decode cX2_isFloorAbove 25 = .ok (.iload_n 2, 1) := by decide +kernel
theorem dX2_isFloorAbove_26 : decode cX2_isFloorAbove 26 = .ok (.if_icmp .le 7, 3) := by decide +kernel
theorem dX2_isFloorAbove_29 : decode cX2_isFloorAbove 29 = .ok (.iconst 1, 1) := by decide +kernel
theorem dX2_isFloorAbove_30 : decode cX2_isFloorAbove 30 = .ok (.goto 4, 3) := by decide +kernel
theorem dX2_isFloorAbove_33 : decode cX2_isFloorAbove 33 = .ok (.iconst 0, 1) := by decide +kernel
theorem dX2_isFloorAbove_34 : decode cX2_isFloorAbove 34 = .ok (.ireturn, 1) := by decide +kernel
theorem dX2_hasItem_0 : decode cX2_hasItem 0 = .ok (.iload_n 1, 1) := by decide +kernel
theorem dX2_hasItem_1 : decode cX2_hasItem 1 = .ok (.ifCond .lt 23, 3) := by decide +kernel
theorem dX2_hasItem_4 : decode cX2_hasItem 4 = .ok (.iload_n 1, 1) := by decide +kernel
theorem dX2_hasItem_5 : decode cX2_hasItem 5 = .ok (.bipush 32, 2) := by decide +kernel
theorem dX2_hasItem_7 : decode cX2_hasItem 7 = .ok (.if_icmp .ge 17, 3) := by decide +kernel
theorem dX2_hasItem_10 : decode cX2_hasItem 10 = .ok (.aload_n 0, 1) := by decide +kernel
theorem dX2_hasItem_11 : decode cX2_hasItem 11 = .ok (.getfield 19, 3) := by decide +kernel
theorem dX2_hasItem_14 : decode cX2_hasItem 14 = .ok (.iload_n 1, 1) := by decide +kernel
theorem dX2_hasItem_15 : decode cX2_hasItem 15 = .ok (.iaload, 1) := by decide +kernel
theorem dX2_hasItem_16 : decode cX2_hasItem 16 = .ok (.iload_n 2, 1) := by decide +kernel
theorem dX2_hasItem_17 : decode cX2_hasItem 17 = .ok (.if_icmp .ne 7, 3) := by decide +kernel
theorem dX2_hasItem_20 : decode cX2_hasItem 20 = .ok (.iconst 1, 1) := by decide +kernel
theorem dX2_hasItem_21 : decode cX2_hasItem 21 = .ok (.goto 4, 3) := by decide +kernel
theorem dX2_hasItem_24 : decode cX2_hasItem 24 = .ok (.iconst 0, 1) := by decide +kernel
theorem dX2_hasItem_25 : decode cX2_hasItem 25 = .ok (.ireturn, 1) := by decide +kernel
theorem dX3_init_0 : decode cX3_init 0 = .ok (.aload_n 0, 1) := by decide +kernel
theorem dX3_init_1 : decode cX3_init 1 = .ok (.invokespecial 1, 3) := by decide +kernel
theorem dX3_init_4 : decode cX3_init 4 = .ok (.aload_n 0, 1) := by decide +kernel
theorem dX3_init_5 : decode cX3_init 5 = .ok (.aload_n 1, 1) := by decide +kernel
theorem dX3_init_6 : decode cX3_init 6 = .ok (.putfield 7, 3) := by decide +kernel
theorem dX3_init_9 : decode cX3_init 9 = .ok (.aload_n 0, 1) := by decide +kernel
theorem dX3_init_10 : decode cX3_init 10 = .ok (.iload_n 2, 1) := by decide +kernel
theorem dX3_init_11 : decode cX3_init 11 = .ok (.putfield 13, 3) := by decide +kernel
theorem dX3_init_14 : decode cX3_init 14 = .ok (.return_, 1) := by decide +kernel
theorem dX4_init_0 : decode cX4_init 0 = .ok (.aload_n 0, 1) := by decide +kernel
theorem dX4_init_1 : decode cX4_init 1 = .ok (.invokespecial 3, 3) := by decide +kernel
theorem dX4_init_4 : decode cX4_init 4 = .ok (.aload_n 0, 1) := by decide +kernel
theorem dX4_init_5 : decode cX4_init 5 = .ok (.bipush 20, 2) := by decide +kernel
theorem dX4_init_7 : decode cX4_init 7 = .ok (.newarray .int, 2) := by decide +kernel
theorem dX4_init_9 : decode cX4_init 9 = .ok (.putfield 9, 3) := by decide +kernel
theorem dX4_init_12 : decode cX4_init 12 = .ok (.aload_n 0, 1) := by decide +kernel
theorem dX4_init_13 : decode cX4_init 13 = .ok (.bipush 20, 2) := by decide +kernel
theorem dX4_init_15 : decode cX4_init 15 = .ok (.newarray .int, 2) := by decide +kernel
theorem dX4_init_17 : decode cX4_init 17 = .ok (.putfield 15, 3) := by decide +kernel
theorem dX4_init_20 : decode cX4_init 20 = .ok (.aload_n 0, 1) := by decide +kernel
theorem dX4_init_21 : decode cX4_init 21 = .ok (.new 18, 3) := by decide +kernel
theorem dX4_init_24 : decode cX4_init 24 = .ok (.dup, 1) := by decide +kernel
theorem dX4_init_25 : decode cX4_init 25 = .ok (.invokespecial 20, 3) := by decide +kernel
theorem dX4_init_28 : decode cX4_init 28 = .ok (.putfield 21, 3) := by decide +kernel
theorem dX4_init_31 : decode cX4_init 31 = .ok (.aload_n 0, 1) := by decide +kernel
theorem dX4_init_32 : decode cX4_init 32 = .ok (.aload_n 1, 1) := by decide +kernel
theorem dX4_init_33 : decode cX4_init 33 = .ok (.putfield 25, 3) := by decide +kernel
theorem dX4_init_36 : decode cX4_init 36 = .ok (.aload_n 0, 1) := by decide +kernel
theorem dX4_init_37 : decode cX4_init 37 = .ok (.getfield 21, 3) := by decide +kernel
theorem dX4_init_40 : decode cX4_init 40 = .ok (.aload_n 1, 1) := by decide +kernel
theorem dX4_init_41 : decode cX4_init 41 = .ok (.invokevirtual 29, 3) := by decide +kernel
theorem dX4_init_44 : decode cX4_init 44 = .ok (.return_, 1) := by decide +kernel
theorem dX4_hasRoomFor_0 : decode cX4_hasRoomFor 0 = .ok (.aload_n 0, 1) := by decide +kernel
theorem dX4_hasRoomFor_1 : decode cX4_hasRoomFor 1 = .ok (.getfield 33, 3) := by decide +kernel
theorem dX4_hasRoomFor_4 : decode cX4_hasRoomFor 4 = .ok (.bipush 20, 2) := by decide +kernel
theorem dX4_hasRoomFor_6 : decode cX4_hasRoomFor 6 = .ok (.if_icmp .ge 19, 3) := by decide +kernel
theorem dX4_hasRoomFor_9 : decode cX4_hasRoomFor 9 = .ok (.aload_n 0, 1) := by decide +kernel
theorem dX4_hasRoomFor_10 : decode cX4_hasRoomFor 10 = .ok (.getfield 37, 3) := by decide +kernel
theorem dX4_hasRoomFor_13 : decode cX4_hasRoomFor 13 = .ok (.iload_n 1, 1) := by decide +kernel
theorem dX4_hasRoomFor_14 : decode cX4_hasRoomFor 14 = .ok (.iadd, 1) := by decide +kernel
theorem dX4_hasRoomFor_15 : decode cX4_hasRoomFor 15 = .ok (.sipush 500, 3) := by decide +kernel
theorem dX4_hasRoomFor_18 : decode cX4_hasRoomFor 18 = .ok (.if_icmp .gt 7, 3) := by decide +kernel
theorem dX4_hasRoomFor_21 : decode cX4_hasRoomFor 21 = .ok (.iconst 1, 1) := by decide +kernel
theorem dX4_hasRoomFor_22 : decode cX4_hasRoomFor 22 = .ok (.goto 4, 3) := by decide +kernel
theorem dX4_hasRoomFor_25 : decode cX4_hasRoomFor 25 = .ok (.iconst 0, 1) := by decide +kernel
theorem dX4_hasRoomFor_26 : decode cX4_hasRoomFor 26 = .ok (.ireturn, 1) := by decide +kernel
theorem dX4_addPiece_0 : decode cX4_addPiece 0 = .ok (.aload_n 0, 1) := by decide +kernel
theorem dX4_addPiece_1 : decode cX4_addPiece 1 = .ok (.getfield 33, 3) := by decide +kernel
theorem dX4_addPiece_4 : decode cX4_addPiece 4 = .ok (.ifCond .lt 62, 3) := by decide +kernel
theorem dX4_addPiece_7 : decode cX4_addPiece 7 = .ok (.aload_n 0, 1) := by decide +kernel
theorem dX4_addPiece_8 : decode cX4_addPiece 8 = .ok (.getfield 33, 3) := by decide +kernel
theorem dX4_addPiece_11 : decode cX4_addPiece 11 = .ok (.bipush 20, 2) := by decide +kernel
theorem dX4_addPiece_13 : decode cX4_addPiece 13 = .ok (.if_icmp .ge 53, 3) := by decide +kernel
theorem dX4_addPiece_16 : decode cX4_addPiece 16 = .ok (.aload_n 0, 1) := by decide +kernel
theorem dX4_addPiece_17 : decode cX4_addPiece 17 = .ok (.getfield 9, 3) := by decide +kernel
theorem dX4_addPiece_20 : decode cX4_addPiece 20 = .ok (.aload_n 0, 1) := by decide +kernel
theorem dX4_addPiece_21 : decode cX4_addPiece 21 = .ok (.getfield 33, 3) := by decide +kernel
theorem dX4_addPiece_24 : decode cX4_addPiece 24 = .ok (.iload_n 1, 1) := by decide +kernel
theorem dX4_addPiece_25 : decode cX4_addPiece 25 = .ok (.iastore, 1) := by decide +kernel
theorem dX4_addPiece_26 : decode cX4_addPiece 26 = .ok (.aload_n 0, 1) := by decide +kernel
theorem dX4_addPiece_27 : decode cX4_addPiece 27 = .ok (.getfield 15, 3) := by decide +kernel
theorem dX4_addPiece_30 : decode cX4_addPiece 30 = .ok (.aload_n 0, 1) := by decide +kernel
theorem dX4_addPiece_31 : decode cX4_addPiece 31 = .ok (.getfield 33, 3) := by decide +kernel
theorem dX4_addPiece_34 : decode cX4_addPiece 34 = .ok (.iload_n 2, 1) := by decide +kernel
theorem dX4_addPiece_35 : decode cX4_addPiece 35 = .ok (.iastore, 1) := by decide +kernel
theorem dX4_addPiece_36 : decode cX4_addPiece 36 = .ok (.aload_n 0, 1) := by decide +kernel
theorem dX4_addPiece_37 : decode cX4_addPiece 37 = .ok (.dup, 1) := by decide +kernel
theorem dX4_addPiece_38 : decode cX4_addPiece 38 = .ok (.getfield 33, 3) := by decide +kernel
theorem dX4_addPiece_41 : decode cX4_addPiece 41 = .ok (.iconst 1, 1) := by decide +kernel
theorem dX4_addPiece_42 : decode cX4_addPiece 42 = .ok (.iadd, 1) := by decide +kernel
theorem dX4_addPiece_43 : decode cX4_addPiece 43 = .ok (.putfield 33, 3) := by decide +kernel
theorem dX4_addPiece_46 : decode cX4_addPiece 46 = .ok (.aload_n 0, 1) := by decide +kernel
theorem dX4_addPiece_47 : decode cX4_addPiece 47 = .ok (.dup, 1) := by decide +kernel
theorem dX4_addPiece_48 : decode cX4_addPiece 48 = .ok (.getfield 37, 3) := by decide +kernel
theorem dX4_addPiece_51 : decode cX4_addPiece 51 = .ok (.iload_n 2, 1) := by decide +kernel
theorem dX4_addPiece_52 : decode cX4_addPiece 52 = .ok (.iadd, 1) := by decide +kernel
theorem dX4_addPiece_53 : decode cX4_addPiece 53 = .ok (.putfield 37, 3) := by decide +kernel
theorem dX4_addPiece_56 : decode cX4_addPiece 56 = .ok (.aload_n 0, 1) := by decide +kernel
theorem dX4_addPiece_57 : decode cX4_addPiece 57 = .ok (.aload_n 0, 1) := by decide +kernel
theorem dX4_addPiece_58 : decode cX4_addPiece 58 = .ok (.getfield 21, 3) := by decide +kernel
theorem dX4_addPiece_61 : decode cX4_addPiece 61 = .ok (.iload_n 1, 1) := by decide +kernel
theorem dX4_addPiece_62 : decode cX4_addPiece 62 = .ok (.iload_n 2, 1) := by decide +kernel
theorem dX4_addPiece_63 : decode cX4_addPiece 63 = .ok (.invokevirtual 40, 3) := by decide +kernel
theorem dX4_addPiece_66 : decode cX4_addPiece 66 = .ok (.return_, 1) := by decide +kernel
theorem dX4_runAgain_0 : decode cX4_runAgain 0 = .ok (.aload_n 1, 1) := by decide +kernel
theorem dX4_runAgain_1 : decode cX4_runAgain 1 = .ok (.aload_n 0, 1) := by decide +kernel
theorem dX4_runAgain_2 : decode cX4_runAgain 2 = .ok (.getfield 25, 3) := by decide +kernel
theorem dX4_runAgain_5 : decode cX4_runAgain 5 = .ok (.invokevirtual 29, 3) := by decide +kernel
theorem dX4_runAgain_8 : decode cX4_runAgain 8 = .ok (.iconst 0, 1) := by decide +kernel
theorem dX4_runAgain_9 : decode cX4_runAgain 9 = .ok (.istore_n 3, 1) := by decide +kernel
theorem dX4_runAgain_10 : decode cX4_runAgain 10 = .ok (.iload_n 3, 1) := by decide +kernel
theorem dX4_runAgain_11 : decode cX4_runAgain 11 = .ok (.aload_n 0, 1) := by decide +kernel
theorem dX4_runAgain_12 : decode cX4_runAgain 12 = .ok (.getfield 33, 3) := by decide +kernel
theorem dX4_runAgain_15 : decode cX4_runAgain 15 = .ok (.if_icmp .ge 41, 3) := by decide +kernel
theorem dX4_runAgain_18 : decode cX4_runAgain 18 = .ok (.iload_n 3, 1) := by decide +kernel
theorem dX4_runAgain_19 : decode cX4_runAgain 19 = .ok (.bipush 20, 2) := by decide +kernel
theorem dX4_runAgain_21 : decode cX4_runAgain 21 = .ok (.if_icmp .ge 35, 3) := by decide +kernel
theorem dX4_runAgain_24 : decode cX4_runAgain 24 = .ok (.aload_n 0, 1) := by decide +kernel
theorem dX4_runAgain_25 : decode cX4_runAgain 25 = .ok (.aload_n 1, 1) := by decide +kernel
theorem dX4_runAgain_26 : decode cX4_runAgain 26 = .ok (.aload_n 0, 1) := by decide +kernel
theorem dX4_runAgain_27 : decode cX4_runAgain 27 = .ok (.getfield 9, 3) := by decide +kernel
theorem dX4_runAgain_30 : decode cX4_runAgain 30 = .ok (.iload_n 3, 1) := by decide +kernel
theorem dX4_runAgain_31 : decode cX4_runAgain 31 = .ok (.iaload, 1) := by decide +kernel
theorem dX4_runAgain_32 : decode cX4_runAgain 32 = .ok (.aload_n 0, 1) := by decide +kernel
theorem dX4_runAgain_33 : decode cX4_runAgain 33 = .ok (.getfield 15, 3) := by decide +kernel
theorem dX4_runAgain_36 : decode cX4_runAgain 36 = .ok (.iload_n 3, 1) := by decide +kernel
theorem dX4_runAgain_37 : decode cX4_runAgain 37 = .ok (.iaload, 1) := by decide +kernel
theorem dX4_runAgain_38 : decode cX4_runAgain 38 = .ok (.iload_n 2, 1) := by decide +kernel
theorem dX4_runAgain_39 : decode cX4_runAgain 39 = .ok (.aload_n 1, 1) := by decide +kernel
theorem dX4_runAgain_40 : decode cX4_runAgain 40 = .ok (.getfield 44, 3) := by decide +kernel
theorem dX4_runAgain_43 : decode cX4_runAgain 43 = .ok (.isub, 1) := by decide +kernel
theorem dX4_runAgain_44 : decode cX4_runAgain 44 = .ok (.invokestatic 46, 3) := by decide +kernel
theorem dX4_runAgain_47 : decode cX4_runAgain 47 = .ok (.invokevirtual 40, 3) := by decide +kernel
theorem dX4_runAgain_50 : decode cX4_runAgain 50 = .ok (.iinc 3 1, 3) := by decide +kernel
theorem dX4_runAgain_53 : decode cX4_runAgain 53 = .ok (.goto (-43), 3) := by decide +kernel
theorem dX4_runAgain_56 : decode cX4_runAgain 56 = .ok (.return_, 1) := by decide +kernel
theorem dX4_runPiece_0 : decode cX4_runPiece 0 = .ok (.iconst 0, 1) := by decide +kernel
theorem dX4_runPiece_1 : decode cX4_runPiece 1 = .ok (.istore 4, 2) := by decide +kernel
theorem dX4_runPiece_3 : decode cX4_runPiece 3 = .ok (.iload 4, 2) := by decide +kernel
theorem dX4_runPiece_5 : decode cX4_runPiece 5 = .ok (.iload_n 3, 1) := by decide +kernel
theorem dX4_runPiece_6 : decode cX4_runPiece 6 = .ok (.if_icmp .ge 25, 3) := by decide +kernel
theorem dX4_runPiece_9 : decode cX4_runPiece 9 = .ok (.aload_n 1, 1) := by decide +kernel
theorem dX4_runPiece_10 : decode cX4_runPiece 10 = .ok (.invokevirtual 52, 3) := by decide +kernel
theorem dX4_runPiece_13 : decode cX4_runPiece 13 = .ok (.ifCond .ne 18, 3) := by decide +kernel
theorem dX4_runPiece_16 : decode cX4_runPiece 16 = .ok (.aload_n 1, 1) := by decide +kernel
theorem dX4_runPiece_17 : decode cX4_runPiece 17 = .ok (.aload_n 0, 1) := by decide +kernel
theorem dX4_runPiece_18 : decode cX4_runPiece 18 = .ok (.getfield 25, 3) := by decide +kernel
theorem dX4_runPiece_21 : decode cX4_runPiece 21 = .ok (.iload_n 2, 1) := by decide +kernel
theorem dX4_runPiece_22 : decode cX4_runPiece 22 = .ok (.invokevirtual 56, 3) := by decide +kernel
theorem dX4_runPiece_25 : decode cX4_runPiece 25 = .ok (.iinc 4 1, 3) := by decide +kernel
theorem dX4_runPiece_28 : decode cX4_runPiece 28 = .ok (.goto (-25), 3) := by decide +kernel
theorem dX4_runPiece_31 : decode cX4_runPiece 31 = .ok (.return_, 1) := by decide +kernel
theorem dX5_init_0 : decode cX5_init 0 = .ok (.aload_n 0, 1) := by decide +kernel
theorem dX5_init_1 : decode cX5_init 1 = .ok (.invokespecial 1, 3) := by decide +kernel
theorem dX5_init_4 : decode cX5_init 4 = .ok (.aload_n 0, 1) := by decide +kernel
theorem dX5_init_5 : decode cX5_init 5 = .ok (.iload_n 1, 1) := by decide +kernel
theorem dX5_init_6 : decode cX5_init 6 = .ok (.putfield 7, 3) := by decide +kernel
theorem dX5_init_9 : decode cX5_init 9 = .ok (.aload_n 0, 1) := by decide +kernel
theorem dX5_init_10 : decode cX5_init 10 = .ok (.iload_n 2, 1) := by decide +kernel
theorem dX5_init_11 : decode cX5_init 11 = .ok (.putfield 13, 3) := by decide +kernel
theorem dX5_init_14 : decode cX5_init 14 = .ok (.aload_n 0, 1) := by decide +kernel
theorem dX5_init_15 : decode cX5_init 15 = .ok (.iload_n 3, 1) := by decide +kernel
theorem dX5_init_16 : decode cX5_init 16 = .ok (.putfield 16, 3) := by decide +kernel
theorem dX5_init_19 : decode cX5_init 19 = .ok (.aload_n 0, 1) := by decide +kernel
theorem dX5_init_20 : decode cX5_init 20 = .ok (.iload 4, 2) := by decide +kernel
theorem dX5_init_22 : decode cX5_init 22 = .ok (.putfield 19, 3) := by decide +kernel
theorem dX5_init_25 : decode cX5_init 25 = .ok (.return_, 1) := by decide +kernel
theorem dX5_refuses_0 : decode cX5_refuses 0 = .ok (.aload_n 1, 1) := by decide +kernel
theorem dX5_refuses_1 : decode cX5_refuses 1 = .ok (.getfield 22, 3) := by decide +kernel
theorem dX5_refuses_4 : decode cX5_refuses 4 = .ok (.aload_n 0, 1) := by decide +kernel
theorem dX5_refuses_5 : decode cX5_refuses 5 = .ok (.getfield 13, 3) := by decide +kernel
theorem dX5_refuses_8 : decode cX5_refuses 8 = .ok (.iand, 1) := by decide +kernel
theorem dX5_refuses_9 : decode cX5_refuses 9 = .ok (.ifCond .ne 25, 3) := by decide +kernel
theorem dX5_refuses_12 : decode cX5_refuses 12 = .ok (.aload_n 1, 1) := by decide +kernel
theorem dX5_refuses_13 : decode cX5_refuses 13 = .ok (.getfield 27, 3) := by decide +kernel
theorem dX5_refuses_16 : decode cX5_refuses 16 = .ok (.aload_n 0, 1) := by decide +kernel
theorem dX5_refuses_17 : decode cX5_refuses 17 = .ok (.getfield 16, 3) := by decide +kernel
theorem dX5_refuses_20 : decode cX5_refuses 20 = .ok (.if_icmp .lt 14, 3) := by decide +kernel
theorem dX5_refuses_23 : decode cX5_refuses 23 = .ok (.aload_n 1, 1) := by decide +kernel
theorem dX5_refuses_24 : decode cX5_refuses 24 = .ok (.getfield 30, 3) := by decide +kernel
theorem dX5_refuses_27 : decode cX5_refuses 27 = .ok (.aload_n 0, 1) := by decide +kernel
theorem dX5_refuses_28 : decode cX5_refuses 28 = .ok (.getfield 19, 3) := by decide +kernel
theorem dX5_refuses_31 : decode cX5_refuses 31 = .ok (.if_icmp .le 7, 3) := by decide +kernel
theorem dX5_refuses_34 : decode cX5_refuses 34 = .ok (.iconst 1, 1) := by decide +kernel
theorem dX5_refuses_35 : decode cX5_refuses 35 = .ok (.goto 4, 3) := by decide +kernel
theorem dX5_refuses_38 : decode cX5_refuses 38 = .ok (.iconst 0, 1) := by decide +kernel
theorem dX5_refuses_39 : decode cX5_refuses 39 = .ok (.ireturn, 1) := by decide +kernel
theorem dX6_init_0 : decode cX6_init 0 = .ok (.aload_n 0, 1) := by decide +kernel
theorem dX6_init_1 : decode cX6_init 1 = .ok (.invokespecial 1, 3) := by decide +kernel
theorem dX6_init_4 : decode cX6_init 4 = .ok (.aload_n 0, 1) := by decide +kernel
theorem dX6_init_5 : decode cX6_init 5 = .ok (.iload_n 1, 1) := by decide +kernel
theorem dX6_init_6 : decode cX6_init 6 = .ok (.putfield 7, 3) := by decide +kernel
theorem dX6_init_9 : decode cX6_init 9 = .ok (.aload_n 0, 1) := by decide +kernel
theorem dX6_init_10 : decode cX6_init 10 = .ok (.iload_n 2, 1) := by decide +kernel
theorem dX6_init_11 : decode cX6_init 11 = .ok (.putfield 13, 3) := by decide +kernel
theorem dX6_init_14 : decode cX6_init 14 = .ok (.aload_n 0, 1) := by decide +kernel
theorem dX6_init_15 : decode cX6_init 15 = .ok (.aload_n 3, 1) := by decide +kernel
theorem dX6_init_16 : decode cX6_init 16 = .ok (.putfield 16, 3) := by decide +kernel
theorem dX6_init_19 : decode cX6_init 19 = .ok (.aload_n 0, 1) := by decide +kernel
theorem dX6_init_20 : decode cX6_init 20 = .ok (.aload 4, 2) := by decide +kernel
theorem dX6_init_22 : decode cX6_init 22 = .ok (.putfield 20, 3) := by decide +kernel
theorem dX6_init_25 : decode cX6_init 25 = .ok (.aload_n 0, 1) := by decide +kernel
theorem dX6_init_26 : decode cX6_init 26 = .ok (.iload 5, 2) := by decide +kernel
theorem dX6_init_28 : decode cX6_init 28 = .ok (.putfield 24, 3) := by decide +kernel
theorem dX6_init_31 : decode cX6_init 31 = .ok (.aload_n 0, 1) := by decide +kernel
theorem dX6_init_32 : decode cX6_init 32 = .ok (.aload_n 3, 1) := by decide +kernel
theorem dX6_init_33 : decode cX6_init 33 = .ok (.getfield 27, 3) := by decide +kernel
theorem dX6_init_36 : decode cX6_init 36 = .ok (.getfield 33, 3) := by decide +kernel
theorem dX6_init_39 : decode cX6_init 39 = .ok (.putfield 38, 3) := by decide +kernel
theorem dX6_init_42 : decode cX6_init 42 = .ok (.return_, 1) := by decide +kernel
theorem dX6_isFor_0 : decode cX6_isFor 0 = .ok (.aload_n 0, 1) := by decide +kernel
theorem dX6_isFor_1 : decode cX6_isFor 1 = .ok (.getfield 20, 3) := by decide +kernel
theorem dX6_isFor_4 : decode cX6_isFor 4 = .ok (.aload_n 1, 1) := by decide +kernel
theorem dX6_isFor_5 : decode cX6_isFor 5 = .ok (.if_acmp .ne 15, 3) := by decide +kernel
theorem dX6_isFor_8 : decode cX6_isFor 8 = .ok (.aload_n 0, 1) := by decide +kernel
theorem dX6_isFor_9 : decode cX6_isFor 9 = .ok (.getfield 13, 3) := by decide +kernel
theorem dX6_isFor_12 : decode cX6_isFor 12 = .ok (.iload_n 2, 1) := by decide +kernel
theorem dX6_isFor_13 : decode cX6_isFor 13 = .ok (.if_icmp .ne 7, 3) := by decide +kernel
theorem dX6_isFor_16 : decode cX6_isFor 16 = .ok (.iconst 1, 1) := by decide +kernel
theorem dX6_isFor_17 : decode cX6_isFor 17 = .ok (.goto 4, 3) := by decide +kernel
theorem dX6_isFor_20 : decode cX6_isFor 20 = .ok (.iconst 0, 1) := by decide +kernel
theorem dX6_isFor_21 : decode cX6_isFor 21 = .ok (.ireturn, 1) := by decide +kernel
theorem dX6_isAheadOf_0 : decode cX6_isAheadOf 0 = .ok (.aload_n 0, 1) := by decide +kernel
theorem dX6_isAheadOf_1 : decode cX6_isAheadOf 1 = .ok (.getfield 38, 3) := by decide +kernel
theorem dX6_isAheadOf_4 : decode cX6_isAheadOf 4 = .ok (.aload_n 1, 1) := by decide +kernel
theorem dX6_isAheadOf_5 : decode cX6_isAheadOf 5 = .ok (.getfield 38, 3) := by decide +kernel
theorem dX6_isAheadOf_8 : decode cX6_isAheadOf 8 = .ok (.if_icmp .lt 25, 3) := by decide +kernel
theorem dX6_isAheadOf_11 : decode cX6_isAheadOf 11 = .ok (.aload_n 0, 1) := by decide +kernel
theorem dX6_isAheadOf_12 : decode cX6_isAheadOf 12 = .ok (.getfield 38, 3) := by decide +kernel
theorem dX6_isAheadOf_15 : decode cX6_isAheadOf 15 = .ok (.aload_n 1, 1) := by decide +kernel
theorem dX6_isAheadOf_16 : decode cX6_isAheadOf 16 = .ok (.getfield 38, 3) := by decide +kernel
theorem dX6_isAheadOf_19 : decode cX6_isAheadOf 19 = .ok (.if_icmp .ne 18, 3) := by decide +kernel
theorem dX6_isAheadOf_22 : decode cX6_isAheadOf 22 = .ok (.aload_n 0, 1) := by decide +kernel
theorem dX6_isAheadOf_23 : decode cX6_isAheadOf 23 = .ok (.getfield 7, 3) := by decide +kernel
theorem dX6_isAheadOf_26 : decode cX6_isAheadOf 26 = .ok (.aload_n 1, 1) := by decide +kernel
theorem dX6_isAheadOf_27 : decode cX6_isAheadOf 27 = .ok (.getfield 7, 3) := by decide +kernel
theorem dX6_isAheadOf_30 : decode cX6_isAheadOf 30 = .ok (.if_icmp .ge 7, 3) := by decide +kernel
theorem dX6_isAheadOf_33 : decode cX6_isAheadOf 33 = .ok (.iconst 1, 1) := by decide +kernel
theorem dX6_isAheadOf_34 : decode cX6_isAheadOf 34 = .ok (.goto 4, 3) := by decide +kernel
theorem dX6_isAheadOf_37 : decode cX6_isAheadOf 37 = .ok (.iconst 0, 1) := by decide +kernel
theorem dX6_isAheadOf_38 : decode cX6_isAheadOf 38 = .ok (.ireturn, 1) := by decide +kernel
theorem dX7_init_0 : decode cX7_init 0 = .ok (.aload_n 0, 1) := by decide +kernel
theorem dX7_init_1 : decode cX7_init 1 = .ok (.invokespecial 3, 3) := by decide +kernel
theorem dX7_init_4 : decode cX7_init 4 = .ok (.aload_n 0, 1) := by decide +kernel
theorem dX7_init_5 : decode cX7_init 5 = .ok (.new 9, 3) := by decide +kernel
theorem dX7_init_8 : decode cX7_init 8 = .ok (.dup, 1) := by decide +kernel
theorem dX7_init_9 : decode cX7_init 9 = .ok (.invokespecial 11, 3) := by decide +kernel
theorem dX7_init_12 : decode cX7_init 12 = .ok (.putfield 12, 3) := by decide +kernel
theorem dX7_init_15 : decode cX7_init 15 = .ok (.aload_n 0, 1) := by decide +kernel
theorem dX7_init_16 : decode cX7_init 16 = .ok (.new 9, 3) := by decide +kernel
theorem dX7_init_19 : decode cX7_init 19 = .ok (.dup, 1) := by decide +kernel
theorem dX7_init_20 : decode cX7_init 20 = .ok (.invokespecial 11, 3) := by decide +kernel
theorem dX7_init_23 : decode cX7_init 23 = .ok (.putfield 16, 3) := by decide +kernel
theorem dX7_init_26 : decode cX7_init 26 = .ok (.aload_n 0, 1) := by decide +kernel
theorem dX7_init_27 : decode cX7_init 27 = .ok (.new 9, 3) := by decide +kernel
theorem dX7_init_30 : decode cX7_init 30 = .ok (.dup, 1) := by decide +kernel
theorem dX7_init_31 : decode cX7_init 31 = .ok (.invokespecial 11, 3) := by decide +kernel
theorem dX7_init_34 : decode cX7_init 34 = .ok (.putfield 19, 3) := by decide +kernel
theorem dX7_init_37 : decode cX7_init 37 = .ok (.aload_n 0, 1) := by decide +kernel
theorem dX7_init_38 : decode cX7_init 38 = .ok (.new 9, 3) := by decide +kernel
theorem dX7_init_41 : decode cX7_init 41 = .ok (.dup, 1) := by decide +kernel
theorem dX7_init_42 : decode cX7_init 42 = .ok (.invokespecial 11, 3) := by decide +kernel
theorem dX7_init_45 : decode cX7_init 45 = .ok (.putfield 22, 3) := by decide +kernel
theorem dX7_init_48 : decode cX7_init 48 = .ok (.aload_n 0, 1) := by decide +kernel
theorem dX7_init_49 : decode cX7_init 49 = .ok (.new 9, 3) := by decide +kernel
theorem dX7_init_52 : decode cX7_init 52 = .ok (.dup, 1) := by decide +kernel
theorem dX7_init_53 : decode cX7_init 53 = .ok (.invokespecial 11, 3) := by decide +kernel
theorem dX7_init_56 : decode cX7_init 56 = .ok (.putfield 25, 3) := by decide +kernel
theorem dX7_init_59 : decode cX7_init 59 = .ok (.aload_n 0, 1) := by decide +kernel
theorem dX7_init_60 : decode cX7_init 60 = .ok (.new 28, 3) := by decide +kernel
theorem dX7_init_63 : decode cX7_init 63 = .ok (.dup, 1) := by decide +kernel
theorem dX7_init_64 : decode cX7_init 64 = .ok (.invokespecial 30, 3) := by decide +kernel
theorem dX7_init_67 : decode cX7_init 67 = .ok (.putfield 31, 3) := by decide +kernel
theorem dX7_init_70 : decode cX7_init 70 = .ok (.aload_n 0, 1) := by decide +kernel
theorem dX7_init_71 : decode cX7_init 71 = .ok (.sipush 1024, 3) := by decide +kernel
theorem dX7_init_74 : decode cX7_init 74 = .ok (.newarray .int, 2) := by decide +kernel
theorem dX7_init_76 : decode cX7_init 76 = .ok (.putfield 35, 3) := by decide +kernel
theorem dX7_init_79 : decode cX7_init 79 = .ok (.aload_n 0, 1) := by decide +kernel
theorem dX7_init_80 : decode cX7_init 80 = .ok (.sipush 1024, 3) := by decide +kernel
theorem dX7_init_83 : decode cX7_init 83 = .ok (.newarray .int, 2) := by decide +kernel
theorem dX7_init_85 : decode cX7_init 85 = .ok (.putfield 39, 3) := by decide +kernel
theorem dX7_init_88 : decode cX7_init 88 = .ok (.aload_n 0, 1) := by decide +kernel
theorem dX7_init_89 : decode cX7_init 89 = .ok (.iconst 0, 1) := by decide +kernel
theorem dX7_init_90 : decode cX7_init 90 = .ok (.putfield 42, 3) := by decide +kernel
theorem dX7_init_93 : decode cX7_init 93 = .ok (.return_, 1) := by decide +kernel
theorem dX7_level_0 : decode cX7_level 0 = .ok (.aload_n 0, 1) := by decide +kernel
theorem dX7_level_1 : decode cX7_level 1 = .ok (.getfield 12, 3) := by decide +kernel
theorem dX7_level_4 : decode cX7_level 4 = .ok (.invokevirtual 46, 3) := by decide +kernel
theorem dX7_level_7 : decode cX7_level 7 = .ok (.iconst 3, 1) := by decide +kernel
theorem dX7_level_8 : decode cX7_level 8 = .ok (.if_icmp .lt 13, 3) := by decide +kernel
theorem dX7_level_11 : decode cX7_level 11 = .ok (.new 50, 3) := by decide +kernel
theorem dX7_level_14 : decode cX7_level 14 = .ok (.dup, 1) := by decide +kernel
theorem dX7_level_15 : decode cX7_level 15 = .ok (.ldc 52, 2) := by decide +kernel
theorem dX7_level_17 : decode cX7_level 17 = .ok (.invokespecial 54, 3) := by decide +kernel
theorem dX7_level_20 : decode cX7_level 20 = .ok (.athrow, 1) := by decide +kernel
theorem dX7_level_21 : decode cX7_level 21 = .ok (.aload_n 0, 1) := by decide +kernel
theorem dX7_level_22 : decode cX7_level 22 = .ok (.getfield 12, 3) := by decide +kernel
theorem dX7_level_25 : decode cX7_level 25 = .ok (.new 57, 3) := by decide +kernel
theorem dX7_level_28 : decode cX7_level 28 = .ok (.dup, 1) := by decide +kernel
theorem dX7_level_29 : decode cX7_level 29 = .ok (.invokespecial 59, 3) := by decide +kernel
theorem dX7_level_32 : decode cX7_level 32 = .ok (.invokevirtual 60, 3) := by decide +kernel
theorem dX7_level_35 : decode cX7_level 35 = .ok (.pop, 1) := by decide +kernel
theorem dX7_level_36 : decode cX7_level 36 = .ok (.aload_n 0, 1) := by decide +kernel
theorem dX7_level_37 : decode cX7_level 37 = .ok (.getfield 12, 3) := by decide +kernel
theorem dX7_level_40 : decode cX7_level 40 = .ok (.invokevirtual 46, 3) := by decide +kernel
theorem dX7_level_43 : decode cX7_level 43 = .ok (.iconst 1, 1) := by decide +kernel
theorem dX7_level_44 : decode cX7_level 44 = .ok (.isub, 1) := by decide +kernel
theorem dX7_level_45 : decode cX7_level 45 = .ok (.ireturn, 1) := by decide +kernel
theorem dX7_column_0 : decode cX7_column 0 = .ok (.aload_n 0, 1) := by decide +kernel
theorem dX7_column_1 : decode cX7_column 1 = .ok (.iload_n 1, 1) := by decide +kernel
theorem dX7_column_2 : decode cX7_column 2 = .ok (.invokevirtual 64, 3) := by decide +kernel
theorem dX7_column_5 : decode cX7_column 5 = .ok (.astore 5, 2) := by decide +kernel
theorem dX7_column_7 : decode cX7_column 7 = .ok (.iload_n 2, 1) := by decide +kernel
theorem dX7_column_8 : decode cX7_column 8 = .ok (.iconst 0, 1) := by decide +kernel
theorem dX7_column_9 : decode cX7_column 9 = .ok (.bipush 31, 2) := by decide +kernel
theorem dX7_column_11 : decode cX7_column 11 = .ok (.invokestatic 68, 3) := by decide +kernel
theorem dX7_column_14 : decode cX7_column 14 = .ok (.ifCond .ne 13, 3) := by decide +kernel
theorem dX7_column_17 : decode cX7_column 17 = .ok (.new 72, 3) := by decide +kernel
theorem dX7_column_20 : decode cX7_column 20 = .ok (.dup, 1) := by decide +kernel
theorem dX7_column_21 : decode cX7_column 21 = .ok (.ldc 74, 2) := by decide +kernel
theorem dX7_column_23 : decode cX7_column 23 = .ok (.invokespecial 76, 3) := by decide +kernel
theorem dX7_column_26 : decode cX7_column 26 = .ok (.athrow, 1) := by decide +kernel
theorem dX7_column_27 : decode cX7_column 27 = .ok (.iload_n 3, 1) := by decide +kernel
theorem dX7_column_28 : decode cX7_column 28 = .ok (.iconst (-1), 1) := by decide +kernel
theorem dX7_column_29 : decode cX7_column 29 = .ok (.bipush 6, 2) := by decide +kernel
theorem dX7_column_31 : decode cX7_column 31 = .ok (.invokestatic 68, 3) := by decide +kernel
theorem dX7_column_34 : decode cX7_column 34 = .ok (.invokestatic 77, 3) := by decide +kernel
theorem dX7_column_37 : decode cX7_column 37 = .ok (.iload 4, 2) := by decide +kernel
theorem dX7_column_39 : decode cX7_column 39 = .ok (.iconst 0, 1) := by decide +kernel
theorem dX7_column_40 : decode cX7_column 40 = .ok (.iconst 2, 1) := by decide +kernel
theorem dX7_column_41 : decode cX7_column 41 = .ok (.invokestatic 68, 3) := by decide +kernel
theorem dX7_column_44 : decode cX7_column 44 = .ok (.invokestatic 77, 3) := by decide +kernel
theorem dX7_column_47 : decode cX7_column 47 = .ok (.aload_n 0, 1) := by decide +kernel
theorem dX7_column_48 : decode cX7_column 48 = .ok (.aload 5, 2) := by decide +kernel
theorem dX7_column_50 : decode cX7_column 50 = .ok (.invokevirtual 81, 3) := by decide +kernel
theorem dX7_column_53 : decode cX7_column 53 = .ok (.ifCond .eq 13, 3) := by decide +kernel
theorem dX7_column_56 : decode cX7_column 56 = .ok (.new 50, 3) := by decide +kernel
theorem dX7_column_59 : decode cX7_column 59 = .ok (.dup, 1) := by decide +kernel
theorem dX7_column_60 : decode cX7_column 60 = .ok (.ldc 85, 2) := by decide +kernel
theorem dX7_column_62 : decode cX7_column 62 = .ok (.invokespecial 54, 3) := by decide +kernel
theorem dX7_column_65 : decode cX7_column 65 = .ok (.athrow, 1) := by decide +kernel
theorem dX7_column_66 : decode cX7_column 66 = .ok (.aload 5, 2) := by decide +kernel
theorem dX7_column_68 : decode cX7_column 68 = .ok (.iload_n 2, 1) := by decide +kernel
theorem dX7_column_69 : decode cX7_column 69 = .ok (.iload_n 3, 1) := by decide +kernel
theorem dX7_column_70 : decode cX7_column 70 = .ok (.iload 4, 2) := by decide +kernel
theorem dX7_column_72 : decode cX7_column 72 = .ok (.invokevirtual 87, 3) := by decide +kernel
theorem dX7_column_75 : decode cX7_column 75 = .ok (.return_, 1) := by decide +kernel
theorem dX7_replay_0 : decode cX7_replay 0 = .ok (.aload_n 0, 1) := by decide +kernel
theorem dX7_replay_1 : decode cX7_replay 1 = .ok (.iload_n 1, 1) := by decide +kernel
theorem dX7_replay_2 : decode cX7_replay 2 = .ok (.invokevirtual 64, 3) := by decide +kernel
theorem dX7_replay_5 : decode cX7_replay 5 = .ok (.astore_n 2, 1) := by decide +kernel
theorem dX7_replay_6 : decode cX7_replay 6 = .ok (.aload_n 0, 1) := by decide +kernel
theorem dX7_replay_7 : decode cX7_replay 7 = .ok (.getfield 16, 3) := by decide +kernel
theorem dX7_replay_10 : decode cX7_replay 10 = .ok (.invokevirtual 46, 3) := by decide +kernel
theorem dX7_replay_13 : decode cX7_replay 13 = .ok (.bipush 20, 2) := by decide +kernel
theorem dX7_replay_15 : decode cX7_replay 15 = .ok (.if_icmp .lt 13, 3) := by decide +kernel
theorem dX7_replay_18 : decode cX7_replay 18 = .ok (.new 50, 3) := by decide +kernel
theorem dX7_replay_21 : decode cX7_replay 21 = .ok (.dup, 1) := by decide +kernel
theorem dX7_replay_22 : decode cX7_replay 22 = .ok (.ldc 91, 2) := by decide +kernel
theorem dX7_replay_24 : decode cX7_replay 24 = .ok (.invokespecial 54, 3) := by decide +kernel
theorem dX7_replay_27 : decode cX7_replay 27 = .ok (.athrow, 1) := by decide +kernel
theorem dX7_replay_28 : decode cX7_replay 28 = .ok (.aload_n 0, 1) := by decide +kernel
theorem dX7_replay_29 : decode cX7_replay 29 = .ok (.getfield 16, 3) := by decide +kernel
theorem dX7_replay_32 : decode cX7_replay 32 = .ok (.new 93, 3) := by decide +kernel
theorem dX7_replay_35 : decode cX7_replay 35 = .ok (.dup, 1) := by decide +kernel
theorem dX7_replay_36 : decode cX7_replay 36 = .ok (.aload_n 2, 1) := by decide +kernel
theorem dX7_replay_37 : decode cX7_replay 37 = .ok (.invokespecial 95, 3) := by decide +kernel
theorem dX7_replay_40 : decode cX7_replay 40 = .ok (.invokevirtual 60, 3) := by decide +kernel
theorem dX7_replay_43 : decode cX7_replay 43 = .ok (.pop, 1) := by decide +kernel
theorem dX7_replay_44 : decode cX7_replay 44 = .ok (.aload_n 0, 1) := by decide +kernel
theorem dX7_replay_45 : decode cX7_replay 45 = .ok (.getfield 16, 3) := by decide +kernel
theorem dX7_replay_48 : decode cX7_replay 48 = .ok (.invokevirtual 46, 3) := by decide +kernel
theorem dX7_replay_51 : decode cX7_replay 51 = .ok (.iconst 1, 1) := by decide +kernel
theorem dX7_replay_52 : decode cX7_replay 52 = .ok (.isub, 1) := by decide +kernel
theorem dX7_replay_53 : decode cX7_replay 53 = .ok (.ireturn, 1) := by decide +kernel
theorem dX7_input_0 : decode cX7_input 0 = .ok (.aload_n 0, 1) := by decide +kernel
theorem dX7_input_1 : decode cX7_input 1 = .ok (.iload_n 1, 1) := by decide +kernel
theorem dX7_input_2 : decode cX7_input 2 = .ok (.invokevirtual 98, 3) := by decide +kernel
theorem dX7_input_5 : decode cX7_input 5 = .ok (.astore 4, 2) := by decide +kernel
theorem dX7_input_7 : decode cX7_input 7 = .ok (.iload_n 2, 1) := by decide +kernel
theorem dX7_input_8 : decode cX7_input 8 = .ok (.iconst 0, 1) := by decide +kernel
theorem dX7_input_9 : decode cX7_input 9 = .ok (.bipush 15, 2) := by decide +kernel
theorem dX7_input_11 : decode cX7_input 11 = .ok (.invokestatic 68, 3) := by decide +kernel
theorem dX7_input_14 : decode cX7_input 14 = .ok (.invokestatic 77, 3) := by decide +kernel
theorem dX7_input_17 : decode cX7_input 17 = .ok (.iload_n 3, 1) := by decide +kernel
theorem dX7_input_18 : decode cX7_input 18 = .ok (.iconst 1, 1) := by decide +kernel
theorem dX7_input_19 : decode cX7_input 19 = .ok (.bipush 100, 2) := by decide +kernel
theorem dX7_input_21 : decode cX7_input 21 = .ok (.invokestatic 68, 3) := by decide +kernel
theorem dX7_input_24 : decode cX7_input 24 = .ok (.invokestatic 77, 3) := by decide +kernel
theorem dX7_input_27 : decode cX7_input 27 = .ok (.aload 4, 2) := by decide +kernel
theorem dX7_input_29 : decode cX7_input 29 = .ok (.getfield 102, 3) := by decide +kernel
theorem dX7_input_32 : decode cX7_input 32 = .ok (.ifCond .ne 12, 3) := by decide +kernel
theorem dX7_input_35 : decode cX7_input 35 = .ok (.aload 4, 2) := by decide +kernel
theorem dX7_input_37 : decode cX7_input 37 = .ok (.iload_n 3, 1) := by decide +kernel
theorem dX7_input_38 : decode cX7_input 38 = .ok (.invokevirtual 106, 3) := by decide +kernel
theorem dX7_input_41 : decode cX7_input 41 = .ok (.ifCond .ne 13, 3) := by decide +kernel
theorem dX7_input_44 : decode cX7_input 44 = .ok (.new 50, 3) := by decide +kernel
theorem dX7_input_47 : decode cX7_input 47 = .ok (.dup, 1) := by decide +kernel
theorem dX7_input_48 : decode cX7_input 48 = .ok (.ldc 110, 2) := by decide +kernel
theorem dX7_input_50 : decode cX7_input 50 = .ok (.invokespecial 54, 3) := by decide +kernel
theorem dX7_input_53 : decode cX7_input 53 = .ok (.athrow, 1) := by decide +kernel
theorem dX7_input_54 : decode cX7_input 54 = .ok (.aload 4, 2) := by decide +kernel
theorem dX7_input_56 : decode cX7_input 56 = .ok (.iload_n 2, 1) := by decide +kernel
theorem dX7_input_57 : decode cX7_input 57 = .ok (.iload_n 3, 1) := by decide +kernel
theorem dX7_input_58 : decode cX7_input 58 = .ok (.invokevirtual 112, 3) := by decide +kernel
theorem dX7_input_61 : decode cX7_input 61 = .ok (.aload 4, 2) := by decide +kernel
theorem dX7_input_63 : decode cX7_input 63 = .ok (.getfield 116, 3) := by decide +kernel
theorem dX7_input_66 : decode cX7_input 66 = .ok (.ireturn, 1) := by decide +kernel
theorem dX7_result_0 : decode cX7_result 0 = .ok (.aload_n 0, 1) := by decide +kernel
theorem dX7_result_1 : decode cX7_result 1 = .ok (.iload_n 1, 1) := by decide +kernel
theorem dX7_result_2 : decode cX7_result 2 = .ok (.invokevirtual 98, 3) := by decide +kernel
theorem dX7_result_5 : decode cX7_result 5 = .ok (.getfield 119, 3) := by decide +kernel
theorem dX7_result_8 : decode cX7_result 8 = .ok (.astore_n 2, 1) := by decide +kernel
theorem dX7_result_9 : decode cX7_result 9 = .ok (.bipush 10, 2) := by decide +kernel
theorem dX7_result_11 : decode cX7_result 11 = .ok (.aload_n 2, 1) := by decide +kernel
theorem dX7_result_12 : decode cX7_result 12 = .ok (.getfield 122, 3) := by decide +kernel
theorem dX7_result_15 : decode cX7_result 15 = .ok (.imul, 1) := by decide +kernel
theorem dX7_result_16 : decode cX7_result 16 = .ok (.aload_n 2, 1) := by decide +kernel
theorem dX7_result_17 : decode cX7_result 17 = .ok (.getfield 125, 3) := by decide +kernel
theorem dX7_result_20 : decode cX7_result 20 = .ok (.iadd, 1) := by decide +kernel
theorem dX7_result_21 : decode cX7_result 21 = .ok (.ireturn, 1) := by decide +kernel
theorem dX7_where_0 : decode cX7_where 0 = .ok (.aload_n 0, 1) := by decide +kernel
theorem dX7_where_1 : decode cX7_where 1 = .ok (.iload_n 1, 1) := by decide +kernel
theorem dX7_where_2 : decode cX7_where 2 = .ok (.invokevirtual 98, 3) := by decide +kernel
theorem dX7_where_5 : decode cX7_where 5 = .ok (.astore_n 3, 1) := by decide +kernel
theorem dX7_where_6 : decode cX7_where 6 = .ok (.iload_n 2, 1) := by decide +kernel
theorem dX7_where_7 : decode cX7_where 7 = .ok (.iconst 0, 1) := by decide +kernel
theorem dX7_where_8 : decode cX7_where 8 = .ok (.aload_n 3, 1) := by decide +kernel
theorem dX7_where_9 : decode cX7_where 9 = .ok (.getfield 119, 3) := by decide +kernel
theorem dX7_where_12 : decode cX7_where 12 = .ok (.getfield 122, 3) := by decide +kernel
theorem dX7_where_15 : decode cX7_where 15 = .ok (.invokestatic 68, 3) := by decide +kernel
theorem dX7_where_18 : decode cX7_where 18 = .ok (.ifCond .ne 13, 3) := by decide +kernel
theorem dX7_where_21 : decode cX7_where 21 = .ok (.new 72, 3) := by decide +kernel
theorem dX7_where_24 : decode cX7_where 24 = .ok (.dup, 1) := by decide +kernel
theorem dX7_where_25 : decode cX7_where 25 = .ok (.ldc 137, 2) := by decide +kernel
theorem dX7_where_27 : decode cX7_where 27 = .ok (.invokespecial 76, 3) := by decide +kernel
theorem dX7_where_30 : decode cX7_where 30 = .ok (.athrow, 1) := by decide +kernel
theorem dX7_where_31 : decode cX7_where 31 = .ok (.aload_n 3, 1) := by decide +kernel
theorem dX7_where_32 : decode cX7_where 32 = .ok (.aload_n 0, 1) := by decide +kernel
theorem dX7_where_33 : decode cX7_where 33 = .ok (.getfield 31, 3) := by decide +kernel
theorem dX7_where_36 : decode cX7_where 36 = .ok (.iload_n 2, 1) := by decide +kernel
theorem dX7_where_37 : decode cX7_where 37 = .ok (.invokevirtual 139, 3) := by decide +kernel
theorem dX7_where_40 : decode cX7_where 40 = .ok (.sipush 1000, 3) := by decide +kernel
theorem dX7_where_43 : decode cX7_where 43 = .ok (.aload_n 0, 1) := by decide +kernel
theorem dX7_where_44 : decode cX7_where 44 = .ok (.getfield 31, 3) := by decide +kernel
theorem dX7_where_47 : decode cX7_where 47 = .ok (.getfield 143, 3) := by decide +kernel
theorem dX7_where_50 : decode cX7_where 50 = .ok (.imul, 1) := by decide +kernel
theorem dX7_where_51 : decode cX7_where 51 = .ok (.aload_n 0, 1) := by decide +kernel
theorem dX7_where_52 : decode cX7_where 52 = .ok (.getfield 31, 3) := by decide +kernel
theorem dX7_where_55 : decode cX7_where 55 = .ok (.getfield 146, 3) := by decide +kernel
theorem dX7_where_58 : decode cX7_where 58 = .ok (.iadd, 1) := by decide +kernel
theorem dX7_where_59 : decode cX7_where 59 = .ok (.ireturn, 1) := by decide +kernel
theorem dX7_isWithin_0 : decode cX7_isWithin 0 = .ok (.iload_n 0, 1) := by decide +kernel
theorem dX7_isWithin_1 : decode cX7_isWithin 1 = .ok (.iload_n 1, 1) := by decide +kernel
theorem dX7_isWithin_2 : decode cX7_isWithin 2 = .ok (.if_icmp .lt 12, 3) := by decide +kernel
theorem dX7_isWithin_5 : decode cX7_isWithin 5 = .ok (.iload_n 0, 1) := by decide +kernel
theorem dX7_isWithin_6 : decode cX7_isWithin 6 = .ok (.iload_n 2, 1) := by decide +kernel
theorem dX7_isWithin_7 : decode cX7_isWithin 7 = .ok (.if_icmp .gt 7, 3) := by decide +kernel
theorem dX7_isWithin_10 : decode cX7_isWithin 10 = .ok (.iconst 1, 1) := by decide +kernel
theorem dX7_isWithin_11 : decode cX7_isWithin 11 = .ok (.goto 4, 3) := by decide +kernel
theorem dX7_isWithin_14 : decode cX7_isWithin 14 = .ok (.iconst 0, 1) := by decide +kernel
theorem dX7_isWithin_15 : decode cX7_isWithin 15 = .ok (.ireturn, 1) := by decide +kernel
theorem dX7_requireArgument_0 : decode cX7_requireArgument 0 = .ok (.iload_n 0, 1) := by decide +kernel
theorem dX7_requireArgument_1 : decode cX7_requireArgument 1 = .ok (.ifCond .ne 13, 3) := by decide +kernel
theorem dX7_requireArgument_4 : decode cX7_requireArgument 4 = .ok (.new 149, 3) := by decide +kernel
theorem dX7_requireArgument_7 : decode cX7_requireArgument 7 = .ok (.dup, 1) := by decide +kernel
theorem dX7_requireArgument_8 : decode cX7_requireArgument 8 = .ok (.ldc 151, 2) := by decide +kernel
theorem dX7_requireArgument_10 : decode cX7_requireArgument 10 = .ok (.invokespecial 153, 3) := by decide +kernel
theorem dX7_requireArgument_13 : decode cX7_requireArgument 13 = .ok (.athrow, 1) := by decide +kernel
theorem dX7_requireArgument_14 : decode cX7_requireArgument 14 = .ok (.return_, 1) := by decide +kernel
theorem dX7_levelOf_0 : decode cX7_levelOf 0 = .ok (.iload_n 1, 1) := by decide +kernel
theorem dX7_levelOf_1 : decode cX7_levelOf 1 = .ok (.iconst 0, 1) := by decide +kernel
theorem dX7_levelOf_2 : decode cX7_levelOf 2 = .ok (.aload_n 0, 1) := by decide +kernel
theorem dX7_levelOf_3 : decode cX7_levelOf 3 = .ok (.getfield 12, 3) := by decide +kernel
theorem dX7_levelOf_6 : decode cX7_levelOf 6 = .ok (.invokevirtual 46, 3) := by decide +kernel
theorem dX7_levelOf_9 : decode cX7_levelOf 9 = .ok (.iconst 1, 1) := by decide +kernel
theorem dX7_levelOf_10 : decode cX7_levelOf 10 = .ok (.isub, 1) := by decide +kernel
theorem dX7_levelOf_11 : decode cX7_levelOf 11 = .ok (.invokestatic 68, 3) := by decide +kernel
theorem dX7_levelOf_14 : decode cX7_levelOf 14 = .ok (.ifCond .ne 13, 3) := by decide +kernel
theorem dX7_levelOf_17 : decode cX7_levelOf 17 = .ok (.new 72, 3) := by decide +kernel
theorem dX7_levelOf_20 : decode cX7_levelOf 20 = .ok (.dup, 1) := by decide +kernel
theorem dX7_levelOf_21 : decode cX7_levelOf 21 = .ok (.ldc 154, 2) := by decide +kernel
theorem dX7_levelOf_23 : decode cX7_levelOf 23 = .ok (.invokespecial 76, 3) := by decide +kernel
theorem dX7_levelOf_26 : decode cX7_levelOf 26 = .ok (.athrow, 1) := by decide +kernel
theorem dX7_levelOf_27 : decode cX7_levelOf 27 = .ok (.aload_n 0, 1) := by decide +kernel
theorem dX7_levelOf_28 : decode cX7_levelOf 28 = .ok (.getfield 12, 3) := by decide +kernel
theorem dX7_levelOf_31 : decode cX7_levelOf 31 = .ok (.iload_n 1, 1) := by decide +kernel
theorem dX7_levelOf_32 : decode cX7_levelOf 32 = .ok (.invokevirtual 156, 3) := by decide +kernel
theorem dX7_levelOf_35 : decode cX7_levelOf 35 = .ok (.checkcast 57, 3) := by decide +kernel
theorem dX7_levelOf_38 : decode cX7_levelOf 38 = .ok (.areturn, 1) := by decide +kernel
theorem dX7_replayOf_0 : decode cX7_replayOf 0 = .ok (.iload_n 1, 1) := by decide +kernel
theorem dX7_replayOf_1 : decode cX7_replayOf 1 = .ok (.iconst 0, 1) := by decide +kernel
theorem dX7_replayOf_2 : decode cX7_replayOf 2 = .ok (.aload_n 0, 1) := by decide +kernel
theorem dX7_replayOf_3 : decode cX7_replayOf 3 = .ok (.getfield 16, 3) := by decide +kernel
theorem dX7_replayOf_6 : decode cX7_replayOf 6 = .ok (.invokevirtual 46, 3) := by decide +kernel
theorem dX7_replayOf_9 : decode cX7_replayOf 9 = .ok (.iconst 1, 1) := by decide +kernel
theorem dX7_replayOf_10 : decode cX7_replayOf 10 = .ok (.isub, 1) := by decide +kernel
theorem dX7_replayOf_11 : decode cX7_replayOf 11 = .ok (.invokestatic 68, 3) := by decide +kernel
theorem dX7_replayOf_14 : decode cX7_replayOf 14 = .ok (.ifCond .ne 13, 3) := by decide +kernel
theorem dX7_replayOf_17 : decode cX7_replayOf 17 = .ok (.new 72, 3) := by decide +kernel
theorem dX7_replayOf_20 : decode cX7_replayOf 20 = .ok (.dup, 1) := by decide +kernel
theorem dX7_replayOf_21 : decode cX7_replayOf 21 = .ok (.ldc 160, 2) := by decide +kernel
theorem dX7_replayOf_23 : decode cX7_replayOf 23 = .ok (.invokespecial 76, 3) := by decide +kernel
theorem dX7_replayOf_26 : decode cX7_replayOf 26 = .ok (.athrow, 1) := by decide +kernel
theorem dX7_replayOf_27 : decode cX7_replayOf 27 = .ok (.aload_n 0, 1) := by decide +kernel
theorem dX7_replayOf_28 : decode cX7_replayOf 28 = .ok (.getfield 16, 3) := by decide +kernel
theorem dX7_replayOf_31 : decode cX7_replayOf 31 = .ok (.iload_n 1, 1) := by decide +kernel
theorem dX7_replayOf_32 : decode cX7_replayOf 32 = .ok (.invokevirtual 156, 3) := by decide +kernel
theorem dX7_replayOf_35 : decode cX7_replayOf 35 = .ok (.checkcast 93, 3) := by decide +kernel
theorem dX7_replayOf_38 : decode cX7_replayOf 38 = .ok (.areturn, 1) := by decide +kernel
theorem dX7_hasReplay_0 : decode cX7_hasReplay 0 = .ok (.iconst 0, 1) := by decide +kernel
theorem dX7_hasReplay_1 : decode cX7_hasReplay 1 = .ok (.istore_n 2, 1) := by decide +kernel
theorem dX7_hasReplay_2 : decode cX7_hasReplay 2 = .ok (.iload_n 2, 1) := by decide +kernel
theorem dX7_hasReplay_3 : decode cX7_hasReplay 3 = .ok (.aload_n 0, 1) := by decide +kernel
theorem dX7_hasReplay_4 : decode cX7_hasReplay 4 = .ok (.getfield 16, 3) := by decide +kernel
theorem dX7_hasReplay_7 : decode cX7_hasReplay 7 = .ok (.invokevirtual 46, 3) := by decide +kernel
theorem dX7_hasReplay_10 : decode cX7_hasReplay 10 = .ok (.if_icmp .ge 29, 3) := by decide +kernel
theorem dX7_hasReplay_13 : decode cX7_hasReplay 13 = .ok (.aload_n 0, 1) := by decide +kernel
theorem dX7_hasReplay_14 : decode cX7_hasReplay 14 = .ok (.getfield 16, 3) := by decide +kernel
theorem dX7_hasReplay_17 : decode cX7_hasReplay 17 = .ok (.iload_n 2, 1) := by decide +kernel
theorem dX7_hasReplay_18 : decode cX7_hasReplay 18 = .ok (.invokevirtual 156, 3) := by decide +kernel
theorem dX7_hasReplay_21 : decode cX7_hasReplay 21 = .ok (.checkcast 93, 3) := by decide +kernel
theorem dX7_hasReplay_24 : decode cX7_hasReplay 24 = .ok (.getfield 162, 3) := by decide +kernel
theorem dX7_hasReplay_27 : decode cX7_hasReplay 27 = .ok (.aload_n 1, 1) := by decide +kernel
theorem dX7_hasReplay_28 : decode cX7_hasReplay 28 = .ok (.if_acmp .ne 5, 3) := by decide +kernel
theorem dX7_hasReplay_31 : decode cX7_hasReplay 31 = .ok (.iconst 1, 1) := by decide +kernel
theorem dX7_hasReplay_32 : decode cX7_hasReplay 32 = .ok (.ireturn, 1) := by decide +kernel
theorem dX7_hasReplay_33 : decode cX7_hasReplay 33 = .ok (.iinc 2 1, 3) := by decide +kernel
theorem dX7_hasReplay_36 : decode cX7_hasReplay 36 = .ok (.goto (-34), 3) := by decide +kernel
theorem dX7_hasReplay_39 : decode cX7_hasReplay 39 = .ok (.iconst 0, 1) := by decide +kernel
theorem dX7_hasReplay_40 : decode cX7_hasReplay 40 = .ok (.ireturn, 1) := by decide +kernel
theorem dX7_category_0 : decode cX7_category 0 = .ok (.aload_n 0, 1) := by decide +kernel
theorem dX7_category_1 : decode cX7_category 1 = .ok (.iload_n 1, 1) := by decide +kernel
theorem dX7_category_2 : decode cX7_category 2 = .ok (.invokevirtual 64, 3) := by decide +kernel
theorem dX7_category_5 : decode cX7_category 5 = .ok (.astore_n 2, 1) := by decide +kernel
theorem dX7_category_6 : decode cX7_category 6 = .ok (.aload_n 0, 1) := by decide +kernel
theorem dX7_category_7 : decode cX7_category 7 = .ok (.getfield 19, 3) := by decide +kernel
theorem dX7_category_10 : decode cX7_category 10 = .ok (.invokevirtual 46, 3) := by decide +kernel
theorem dX7_category_13 : decode cX7_category 13 = .ok (.bipush 6, 2) := by decide +kernel
theorem dX7_category_15 : decode cX7_category 15 = .ok (.if_icmp .lt 13, 3) := by decide +kernel
theorem dX7_category_18 : decode cX7_category 18 = .ok (.new 50, 3) := by decide +kernel
theorem dX7_category_21 : decode cX7_category 21 = .ok (.dup, 1) := by decide +kernel
theorem dX7_category_22 : decode cX7_category 22 = .ok (.ldc 166, 2) := by decide +kernel
theorem dX7_category_24 : decode cX7_category 24 = .ok (.invokespecial 54, 3) := by decide +kernel
theorem dX7_category_27 : decode cX7_category 27 = .ok (.athrow, 1) := by decide +kernel
theorem dX7_category_28 : decode cX7_category 28 = .ok (.aload_n 0, 1) := by decide +kernel
theorem dX7_category_29 : decode cX7_category 29 = .ok (.getfield 19, 3) := by decide +kernel
theorem dX7_category_32 : decode cX7_category 32 = .ok (.new 168, 3) := by decide +kernel
theorem dX7_category_35 : decode cX7_category 35 = .ok (.dup, 1) := by decide +kernel
theorem dX7_category_36 : decode cX7_category 36 = .ok (.aload_n 2, 1) := by decide +kernel
theorem dX7_category_37 : decode cX7_category 37 = .ok (.invokespecial 170, 3) := by decide +kernel
theorem dX7_category_40 : decode cX7_category 40 = .ok (.invokevirtual 60, 3) := by decide +kernel
theorem dX7_category_43 : decode cX7_category 43 = .ok (.pop, 1) := by decide +kernel
theorem dX7_category_44 : decode cX7_category 44 = .ok (.aload_n 0, 1) := by decide +kernel
theorem dX7_category_45 : decode cX7_category 45 = .ok (.getfield 19, 3) := by decide +kernel
theorem dX7_category_48 : decode cX7_category 48 = .ok (.invokevirtual 46, 3) := by decide +kernel
theorem dX7_category_51 : decode cX7_category 51 = .ok (.iconst 1, 1) := by decide +kernel
theorem dX7_category_52 : decode cX7_category 52 = .ok (.isub, 1) := by decide +kernel
theorem dX7_category_53 : decode cX7_category 53 = .ok (.ireturn, 1) := by decide +kernel
theorem dX7_rule_0 : decode cX7_rule 0 = .ok (.aload_n 0, 1) := by decide +kernel
theorem dX7_rule_1 : decode cX7_rule 1 = .ok (.iload_n 1, 1) := by decide +kernel
theorem dX7_rule_2 : decode cX7_rule 2 = .ok (.invokevirtual 171, 3) := by decide +kernel
theorem dX7_rule_5 : decode cX7_rule 5 = .ok (.astore 6, 2) := by decide +kernel
theorem dX7_rule_7 : decode cX7_rule 7 = .ok (.iload_n 2, 1) := by decide +kernel
theorem dX7_rule_8 : decode cX7_rule 8 = .ok (.iconst 0, 1) := by decide +kernel
theorem dX7_rule_9 : decode cX7_rule 9 = .ok (.sipush 1000, 3) := by decide +kernel
theorem dX7_rule_12 : decode cX7_rule 12 = .ok (.invokestatic 68, 3) := by decide +kernel
theorem dX7_rule_15 : decode cX7_rule 15 = .ok (.invokestatic 77, 3) := by decide +kernel
theorem dX7_rule_18 : decode cX7_rule 18 = .ok (.iload_n 3, 1) := by decide +kernel
theorem dX7_rule_19 : decode cX7_rule 19 = .ok (.iconst 0, 1) := by decide +kernel
theorem dX7_rule_20 : decode cX7_rule 20 = .ok (.bipush 7, 2) := by decide +kernel
theorem dX7_rule_22 : decode cX7_rule 22 = .ok (.invokestatic 68, 3) := by decide +kernel
theorem dX7_rule_25 : decode cX7_rule 25 = .ok (.invokestatic 77, 3) := by decide +kernel
theorem dX7_rule_28 : decode cX7_rule 28 = .ok (.iload 4, 2) := by decide +kernel
theorem dX7_rule_30 : decode cX7_rule 30 = .ok (.iconst 0, 1) := by decide +kernel
theorem dX7_rule_31 : decode cX7_rule 31 = .ok (.bipush 32, 2) := by decide +kernel
theorem dX7_rule_33 : decode cX7_rule 33 = .ok (.invokestatic 68, 3) := by decide +kernel
theorem dX7_rule_36 : decode cX7_rule 36 = .ok (.invokestatic 77, 3) := by decide +kernel
theorem dX7_rule_39 : decode cX7_rule 39 = .ok (.iload 5, 2) := by decide +kernel
theorem dX7_rule_41 : decode cX7_rule 41 = .ok (.iconst 0, 1) := by decide +kernel
theorem dX7_rule_42 : decode cX7_rule 42 = .ok (.sipush 500, 3) := by decide +kernel
theorem dX7_rule_45 : decode cX7_rule 45 = .ok (.invokestatic 68, 3) := by decide +kernel
theorem dX7_rule_48 : decode cX7_rule 48 = .ok (.invokestatic 77, 3) := by decide +kernel
theorem dX7_rule_51 : decode cX7_rule 51 = .ok (.aload 6, 2) := by decide +kernel
theorem dX7_rule_53 : decode cX7_rule 53 = .ok (.getfield 175, 3) := by decide +kernel
theorem dX7_rule_56 : decode cX7_rule 56 = .ok (.invokevirtual 46, 3) := by decide +kernel
theorem dX7_rule_59 : decode cX7_rule 59 = .ok (.bipush 10, 2) := by decide +kernel
theorem dX7_rule_61 : decode cX7_rule 61 = .ok (.if_icmp .lt 13, 3) := by decide +kernel
theorem dX7_rule_64 : decode cX7_rule 64 = .ok (.new 50, 3) := by decide +kernel
theorem dX7_rule_67 : decode cX7_rule 67 = .ok (.dup, 1) := by decide +kernel
theorem dX7_rule_68 : decode cX7_rule 68 = .ok (.ldc 178, 2) := by decide +kernel
theorem dX7_rule_70 : decode cX7_rule 70 = .ok (.invokespecial 54, 3) := by decide +kernel
theorem dX7_rule_73 : decode cX7_rule 73 = .ok (.athrow, 1) := by decide +kernel
theorem dX7_rule_74 : decode cX7_rule 74 = .ok (.aload 6, 2) := by decide +kernel
theorem dX7_rule_76 : decode cX7_rule 76 = .ok (.getfield 175, 3) := by decide +kernel
theorem dX7_rule_79 : decode cX7_rule 79 = .ok (.new 180, 3) := by decide +kernel
theorem dX7_rule_82 : decode cX7_rule 82 = .ok (.dup, 1) := by decide +kernel
theorem dX7_rule_83 : decode cX7_rule 83 = .ok (.iload_n 2, 1) := by decide +kernel
theorem dX7_rule_84 : decode cX7_rule 84 = .ok (.iload_n 3, 1) := by decide +kernel
theorem dX7_rule_85 : decode cX7_rule 85 = .ok (.iload 4, 2) := by decide +kernel
theorem dX7_rule_87 : decode cX7_rule 87 = .ok (.iload 5, 2) := by decide +kernel
theorem dX7_rule_89 : decode cX7_rule 89 = .ok (.invokespecial 182, 3) := by decide +kernel
theorem dX7_rule_92 : decode cX7_rule 92 = .ok (.invokevirtual 60, 3) := by decide +kernel
theorem dX7_rule_95 : decode cX7_rule 95 = .ok (.pop, 1) := by decide +kernel
theorem dX7_rule_96 : decode cX7_rule 96 = .ok (.aload_n 0, 1) := by decide +kernel
theorem dX7_rule_97 : decode cX7_rule 97 = .ok (.aload 6, 2) := by decide +kernel
theorem dX7_rule_99 : decode cX7_rule 99 = .ok (.invokevirtual 185, 3) := by decide +kernel
theorem dX7_rule_102 : decode cX7_rule 102 = .ok (.ireturn, 1) := by decide +kernel
theorem dX7_pass_0 : decode cX7_pass 0 = .ok (.iload_n 1, 1) := by decide +kernel
theorem dX7_pass_1 : decode cX7_pass 1 = .ok (.iconst 1, 1) := by decide +kernel
theorem dX7_pass_2 : decode cX7_pass 2 = .ok (.bipush 100, 2) := by decide +kernel
theorem dX7_pass_4 : decode cX7_pass 4 = .ok (.invokestatic 68, 3) := by decide +kernel
theorem dX7_pass_7 : decode cX7_pass 7 = .ok (.invokestatic 77, 3) := by decide +kernel
theorem dX7_pass_10 : decode cX7_pass 10 = .ok (.aload_n 0, 1) := by decide +kernel
theorem dX7_pass_11 : decode cX7_pass 11 = .ok (.getfield 42, 3) := by decide +kernel
theorem dX7_pass_14 : decode cX7_pass 14 = .ok (.iload_n 1, 1) := by decide +kernel
theorem dX7_pass_15 : decode cX7_pass 15 = .ok (.iadd, 1) := by decide +kernel
theorem dX7_pass_16 : decode cX7_pass 16 = .ok (.sipush 1000, 3) := by decide +kernel
theorem dX7_pass_19 : decode cX7_pass 19 = .ok (.if_icmp .le 13, 3) := by decide +kernel
theorem dX7_pass_22 : decode cX7_pass 22 = .ok (.new 50, 3) := by decide +kernel
theorem dX7_pass_25 : decode cX7_pass 25 = .ok (.dup, 1) := by decide +kernel
theorem dX7_pass_26 : decode cX7_pass 26 = .ok (.ldc 189, 2) := by decide +kernel
theorem dX7_pass_28 : decode cX7_pass 28 = .ok (.invokespecial 54, 3) := by decide +kernel
theorem dX7_pass_31 : decode cX7_pass 31 = .ok (.athrow, 1) := by decide +kernel
theorem dX7_pass_32 : decode cX7_pass 32 = .ok (.aload_n 0, 1) := by decide +kernel
theorem dX7_pass_33 : decode cX7_pass 33 = .ok (.dup, 1) := by decide +kernel
theorem dX7_pass_34 : decode cX7_pass 34 = .ok (.getfield 42, 3) := by decide +kernel
theorem dX7_pass_37 : decode cX7_pass 37 = .ok (.iload_n 1, 1) := by decide +kernel
theorem dX7_pass_38 : decode cX7_pass 38 = .ok (.iadd, 1) := by decide +kernel
theorem dX7_pass_39 : decode cX7_pass 39 = .ok (.putfield 42, 3) := by decide +kernel
theorem dX7_pass_42 : decode cX7_pass 42 = .ok (.aload_n 0, 1) := by decide +kernel
theorem dX7_pass_43 : decode cX7_pass 43 = .ok (.getfield 42, 3) := by decide +kernel
theorem dX7_pass_46 : decode cX7_pass 46 = .ok (.ireturn, 1) := by decide +kernel
theorem dX7_submit_0 : decode cX7_submit 0 = .ok (.iload_n 1, 1) := by decide +kernel
theorem dX7_submit_1 : decode cX7_submit 1 = .ok (.invokestatic 191, 3) := by decide +kernel
theorem dX7_submit_4 : decode cX7_submit 4 = .ok (.aload_n 0, 1) := by decide +kernel
theorem dX7_submit_5 : decode cX7_submit 5 = .ok (.iload_n 2, 1) := by decide +kernel
theorem dX7_submit_6 : decode cX7_submit 6 = .ok (.invokevirtual 98, 3) := by decide +kernel
theorem dX7_submit_9 : decode cX7_submit 9 = .ok (.astore 4, 2) := by decide +kernel
theorem dX7_submit_11 : decode cX7_submit 11 = .ok (.aload_n 0, 1) := by decide +kernel
theorem dX7_submit_12 : decode cX7_submit 12 = .ok (.iload_n 3, 1) := by decide +kernel
theorem dX7_submit_13 : decode cX7_submit 13 = .ok (.invokevirtual 171, 3) := by decide +kernel
theorem dX7_submit_16 : decode cX7_submit 16 = .ok (.astore 5, 2) := by decide +kernel
theorem dX7_submit_18 : decode cX7_submit 18 = .ok (.aload 4, 2) := by decide +kernel
theorem dX7_submit_20 : decode cX7_submit 20 = .ok (.getfield 162, 3) := by decide +kernel
theorem dX7_submit_23 : decode cX7_submit 23 = .ok (.aload 5, 2) := by decide +kernel
theorem dX7_submit_25 : decode cX7_submit 25 = .ok (.getfield 195, 3) := by decide +kernel
theorem dX7_submit_28 : decode cX7_submit 28 = .ok (.if_acmp .eq 13, 3) := by decide +kernel
theorem dX7_submit_31 : decode cX7_submit 31 = .ok (.new 149, 3) := by decide +kernel
theorem dX7_submit_34 : decode cX7_submit 34 = .ok (.dup, 1) := by decide +kernel
theorem dX7_submit_35 : decode cX7_submit 35 = .ok (.ldc 196, 2) := by decide +kernel
theorem dX7_submit_37 : decode cX7_submit 37 = .ok (.invokespecial 153, 3) := by decide +kernel
theorem dX7_submit_40 : decode cX7_submit 40 = .ok (.athrow, 1) := by decide +kernel
theorem dX7_submit_41 : decode cX7_submit 41 = .ok (.aload 4, 2) := by decide +kernel
theorem dX7_submit_43 : decode cX7_submit 43 = .ok (.getfield 119, 3) := by decide +kernel
theorem dX7_submit_46 : decode cX7_submit 46 = .ok (.invokevirtual 198, 3) := by decide +kernel
theorem dX7_submit_49 : decode cX7_submit 49 = .ok (.ifCond .eq 15, 3) := by decide +kernel
theorem dX7_submit_52 : decode cX7_submit 52 = .ok (.aload_n 0, 1) := by decide +kernel
theorem dX7_submit_53 : decode cX7_submit 53 = .ok (.getfield 22, 3) := by decide +kernel
theorem dX7_submit_56 : decode cX7_submit 56 = .ok (.invokevirtual 46, 3) := by decide +kernel
theorem dX7_submit_59 : decode cX7_submit 59 = .ok (.bipush 40, 2) := by decide +kernel
theorem dX7_submit_61 : decode cX7_submit 61 = .ok (.if_icmp .lt 13, 3) := by decide +kernel
theorem dX7_submit_64 : decode cX7_submit 64 = .ok (.new 50, 3) := by decide +kernel
theorem dX7_submit_67 : decode cX7_submit 67 = .ok (.dup, 1) := by decide +kernel
theorem dX7_submit_68 : decode cX7_submit 68 = .ok (.ldc 202, 2) := by decide +kernel
theorem dX7_submit_70 : decode cX7_submit 70 = .ok (.invokespecial 54, 3) := by decide +kernel
theorem dX7_submit_73 : decode cX7_submit 73 = .ok (.athrow, 1) := by decide +kernel
theorem dX7_submit_74 : decode cX7_submit 74 = .ok (.aload 4, 2) := by decide +kernel
theorem dX7_submit_76 : decode cX7_submit 76 = .ok (.iconst 1, 1) := by decide +kernel
theorem dX7_submit_77 : decode cX7_submit 77 = .ok (.putfield 102, 3) := by decide +kernel
theorem dX7_submit_80 : decode cX7_submit 80 = .ok (.aload_n 0, 1) := by decide +kernel
theorem dX7_submit_81 : decode cX7_submit 81 = .ok (.getfield 22, 3) := by decide +kernel
theorem dX7_submit_84 : decode cX7_submit 84 = .ok (.invokevirtual 46, 3) := by decide +kernel
theorem dX7_submit_87 : decode cX7_submit 87 = .ok (.istore 6, 2) := by decide +kernel
theorem dX7_submit_89 : decode cX7_submit 89 = .ok (.aload_n 0, 1) := by decide +kernel
theorem dX7_submit_90 : decode cX7_submit 90 = .ok (.getfield 22, 3) := by decide +kernel
theorem dX7_submit_93 : decode cX7_submit 93 = .ok (.new 204, 3) := by decide +kernel
theorem dX7_submit_96 : decode cX7_submit 96 = .ok (.dup, 1) := by decide +kernel
theorem dX7_submit_97 : decode cX7_submit 97 = .ok (.iload 6, 2) := by decide +kernel
theorem dX7_submit_99 : decode cX7_submit 99 = .ok (.iload_n 1, 1) := by decide +kernel
theorem dX7_submit_100 : decode cX7_submit 100 = .ok (.aload 4, 2) := by decide +kernel
theorem dX7_submit_102 : decode cX7_submit 102 = .ok (.aload 5, 2) := by decide +kernel
theorem dX7_submit_104 : decode cX7_submit 104 = .ok (.aload_n 0, 1) := by decide +kernel
theorem dX7_submit_105 : decode cX7_submit 105 = .ok (.getfield 42, 3) := by decide +kernel
theorem dX7_submit_108 : decode cX7_submit 108 = .ok (.invokespecial 206, 3) := by decide +kernel
theorem dX7_submit_111 : decode cX7_submit 111 = .ok (.invokevirtual 60, 3) := by decide +kernel
theorem dX7_submit_114 : decode cX7_submit 114 = .ok (.pop, 1) := by decide +kernel
theorem dX7_submit_115 : decode cX7_submit 115 = .ok (.iload 6, 2) := by decide +kernel
theorem dX7_submit_117 : decode cX7_submit 117 = .ok (.ireturn, 1) := by decide +kernel
theorem dX7_judged_0 : decode cX7_judged 0 = .ok (.aload_n 0, 1) := by decide +kernel
theorem dX7_judged_1 : decode cX7_judged 1 = .ok (.iload_n 1, 1) := by decide +kernel
theorem dX7_judged_2 : decode cX7_judged 2 = .ok (.invokevirtual 209, 3) := by decide +kernel
theorem dX7_judged_5 : decode cX7_judged 5 = .ok (.astore_n 2, 1) := by decide +kernel
theorem dX7_judged_6 : decode cX7_judged 6 = .ok (.aload_n 2, 1) := by decide +kernel
theorem dX7_judged_7 : decode cX7_judged 7 = .ok (.invokestatic 213, 3) := by decide +kernel
theorem dX7_judged_10 : decode cX7_judged 10 = .ok (.ifCond .eq 7, 3) := by decide +kernel
theorem dX7_judged_13 : decode cX7_judged 13 = .ok (.iconst 1, 1) := by decide +kernel
theorem dX7_judged_14 : decode cX7_judged 14 = .ok (.goto 4, 3) := by decide +kernel
theorem dX7_judged_17 : decode cX7_judged 17 = .ok (.iconst 0, 1) := by decide +kernel
theorem dX7_judged_18 : decode cX7_judged 18 = .ok (.istore_n 3, 1) := by decide +kernel
theorem dX7_judged_19 : decode cX7_judged 19 = .ok (.aload_n 2, 1) := by decide +kernel
theorem dX7_judged_20 : decode cX7_judged 20 = .ok (.getfield 217, 3) := by decide +kernel
theorem dX7_judged_23 : decode cX7_judged 23 = .ok (.ifCond .eq 7, 3) := by decide +kernel
theorem dX7_judged_26 : decode cX7_judged 26 = .ok (.iconst 2, 1) := by decide +kernel
theorem dX7_judged_27 : decode cX7_judged 27 = .ok (.goto 4, 3) := by decide +kernel
theorem dX7_judged_30 : decode cX7_judged 30 = .ok (.iconst 0, 1) := by decide +kernel
theorem dX7_judged_31 : decode cX7_judged 31 = .ok (.istore 4, 2) := by decide +kernel
theorem dX7_judged_33 : decode cX7_judged 33 = .ok (.iload_n 3, 1) := by decide +kernel
theorem dX7_judged_34 : decode cX7_judged 34 = .ok (.iload 4, 2) := by decide +kernel
theorem dX7_judged_36 : decode cX7_judged 36 = .ok (.iadd, 1) := by decide +kernel
theorem dX7_judged_37 : decode cX7_judged 37 = .ok (.ireturn, 1) := by decide +kernel
theorem dX7_strike_0 : decode cX7_strike 0 = .ok (.aload_n 0, 1) := by decide +kernel
theorem dX7_strike_1 : decode cX7_strike 1 = .ok (.iload_n 1, 1) := by decide +kernel
theorem dX7_strike_2 : decode cX7_strike 2 = .ok (.invokevirtual 209, 3) := by decide +kernel
theorem dX7_strike_5 : decode cX7_strike 5 = .ok (.astore_n 2, 1) := by decide +kernel
theorem dX7_strike_6 : decode cX7_strike 6 = .ok (.aload_n 2, 1) := by decide +kernel
theorem dX7_strike_7 : decode cX7_strike 7 = .ok (.aload_n 2, 1) := by decide +kernel
theorem dX7_strike_8 : decode cX7_strike 8 = .ok (.getfield 217, 3) := by decide +kernel
theorem dX7_strike_11 : decode cX7_strike 11 = .ok (.ifCond .ne 7, 3) := by decide +kernel
theorem dX7_strike_14 : decode cX7_strike 14 = .ok (.iconst 1, 1) := by decide +kernel
theorem dX7_strike_15 : decode cX7_strike 15 = .ok (.goto 4, 3) := by decide +kernel
theorem dX7_strike_18 : decode cX7_strike 18 = .ok (.iconst 0, 1) := by decide +kernel
theorem dX7_strike_19 : decode cX7_strike 19 = .ok (.putfield 217, 3) := by decide +kernel
theorem dX7_strike_22 : decode cX7_strike 22 = .ok (.aload_n 2, 1) := by decide +kernel
theorem dX7_strike_23 : decode cX7_strike 23 = .ok (.getfield 217, 3) := by decide +kernel
theorem dX7_strike_26 : decode cX7_strike 26 = .ok (.ireturn, 1) := by decide +kernel
theorem dX7_categoryOf_0 : decode cX7_categoryOf 0 = .ok (.iload_n 1, 1) := by decide +kernel
theorem dX7_categoryOf_1 : decode cX7_categoryOf 1 = .ok (.iconst 0, 1) := by decide +kernel
theorem dX7_categoryOf_2 : decode cX7_categoryOf 2 = .ok (.aload_n 0, 1) := by decide +kernel
theorem dX7_categoryOf_3 : decode cX7_categoryOf 3 = .ok (.getfield 19, 3) := by decide +kernel
theorem dX7_categoryOf_6 : decode cX7_categoryOf 6 = .ok (.invokevirtual 46, 3) := by decide +kernel
theorem dX7_categoryOf_9 : decode cX7_categoryOf 9 = .ok (.iconst 1, 1) := by decide +kernel
theorem dX7_categoryOf_10 : decode cX7_categoryOf 10 = .ok (.isub, 1) := by decide +kernel
theorem dX7_categoryOf_11 : decode cX7_categoryOf 11 = .ok (.invokestatic 68, 3) := by decide +kernel
theorem dX7_categoryOf_14 : decode cX7_categoryOf 14 = .ok (.ifCond .ne 13, 3) := by decide +kernel
theorem dX7_categoryOf_17 : decode cX7_categoryOf 17 = .ok (.new 72, 3) := by decide +kernel
theorem dX7_categoryOf_20 : decode cX7_categoryOf 20 = .ok (.dup, 1) := by decide +kernel
theorem dX7_categoryOf_21 : decode cX7_categoryOf 21 = .ok (.ldc 220, 2) := by decide +kernel
theorem dX7_categoryOf_23 : decode cX7_categoryOf 23 = .ok (.invokespecial 76, 3) := by decide +kernel
theorem dX7_categoryOf_26 : decode cX7_categoryOf 26 = .ok (.athrow, 1) := by decide +kernel
theorem dX7_categoryOf_27 : decode cX7_categoryOf 27 = .ok (.aload_n 0, 1) := by decide +kernel
theorem dX7_categoryOf_28 : decode cX7_categoryOf 28 = .ok (.getfield 19, 3) := by decide +kernel
theorem dX7_categoryOf_31 : decode cX7_categoryOf 31 = .ok (.iload_n 1, 1) := by decide +kernel
theorem dX7_categoryOf_32 : decode cX7_categoryOf 32 = .ok (.invokevirtual 156, 3) := by decide +kernel
theorem dX7_categoryOf_35 : decode cX7_categoryOf 35 = .ok (.checkcast 168, 3) := by decide +kernel
theorem dX7_categoryOf_38 : decode cX7_categoryOf 38 = .ok (.areturn, 1) := by decide +kernel
theorem dX7_runOf_0 : decode cX7_runOf 0 = .ok (.iload_n 1, 1) := by decide +kernel
theorem dX7_runOf_1 : decode cX7_runOf 1 = .ok (.iconst 0, 1) := by decide +kernel
theorem dX7_runOf_2 : decode cX7_runOf 2 = .ok (.aload_n 0, 1) := by decide +kernel
theorem dX7_runOf_3 : decode cX7_runOf 3 = .ok (.getfield 22, 3) := by decide +kernel
theorem dX7_runOf_6 : decode cX7_runOf 6 = .ok (.invokevirtual 46, 3) := by decide +kernel
theorem dX7_runOf_9 : decode cX7_runOf 9 = .ok (.iconst 1, 1) := by decide +kernel
theorem dX7_runOf_10 : decode cX7_runOf 10 = .ok (.isub, 1) := by decide +kernel
theorem dX7_runOf_11 : decode cX7_runOf 11 = .ok (.invokestatic 68, 3) := by decide +kernel
theorem dX7_runOf_14 : decode cX7_runOf 14 = .ok (.ifCond .ne 13, 3) := by decide +kernel
theorem dX7_runOf_17 : decode cX7_runOf 17 = .ok (.new 72, 3) := by decide +kernel
theorem dX7_runOf_20 : decode cX7_runOf 20 = .ok (.dup, 1) := by decide +kernel
theorem dX7_runOf_21 : decode cX7_runOf 21 = .ok (.ldc 222, 2) := by decide +kernel
theorem dX7_runOf_23 : decode cX7_runOf 23 = .ok (.invokespecial 76, 3) := by decide +kernel
theorem dX7_runOf_26 : decode cX7_runOf 26 = .ok (.athrow, 1) := by decide +kernel
theorem dX7_runOf_27 : decode cX7_runOf 27 = .ok (.aload_n 0, 1) := by decide +kernel
theorem dX7_runOf_28 : decode cX7_runOf 28 = .ok (.getfield 22, 3) := by decide +kernel
theorem dX7_runOf_31 : decode cX7_runOf 31 = .ok (.iload_n 1, 1) := by decide +kernel
theorem dX7_runOf_32 : decode cX7_runOf 32 = .ok (.invokevirtual 156, 3) := by decide +kernel
theorem dX7_runOf_35 : decode cX7_runOf 35 = .ok (.checkcast 204, 3) := by decide +kernel
theorem dX7_runOf_38 : decode cX7_runOf 38 = .ok (.areturn, 1) := by decide +kernel
theorem dX7_requireRunner_0 : decode cX7_requireRunner 0 = .ok (.iload_n 0, 1) := by decide +kernel
theorem dX7_requireRunner_1 : decode cX7_requireRunner 1 = .ok (.iconst 0, 1) := by decide +kernel
theorem dX7_requireRunner_2 : decode cX7_requireRunner 2 = .ok (.bipush 7, 2) := by decide +kernel
theorem dX7_requireRunner_4 : decode cX7_requireRunner 4 = .ok (.invokestatic 68, 3) := by decide +kernel
theorem dX7_requireRunner_7 : decode cX7_requireRunner 7 = .ok (.ifCond .ne 13, 3) := by decide +kernel
theorem dX7_requireRunner_10 : decode cX7_requireRunner 10 = .ok (.new 72, 3) := by decide +kernel
theorem dX7_requireRunner_13 : decode cX7_requireRunner 13 = .ok (.dup, 1) := by decide +kernel
theorem dX7_requireRunner_14 : decode cX7_requireRunner 14 = .ok (.ldc 224, 2) := by decide +kernel
theorem dX7_requireRunner_16 : decode cX7_requireRunner 16 = .ok (.invokespecial 76, 3) := by decide +kernel
theorem dX7_requireRunner_19 : decode cX7_requireRunner 19 = .ok (.athrow, 1) := by decide +kernel
theorem dX7_requireRunner_20 : decode cX7_requireRunner 20 = .ok (.return_, 1) := by decide +kernel
theorem dX7_isRefused_0 : decode cX7_isRefused 0 = .ok (.aload_n 0, 1) := by decide +kernel
theorem dX7_isRefused_1 : decode cX7_isRefused 1 = .ok (.getfield 226, 3) := by decide +kernel
theorem dX7_isRefused_4 : decode cX7_isRefused 4 = .ok (.aload_n 0, 1) := by decide +kernel
theorem dX7_isRefused_5 : decode cX7_isRefused 5 = .ok (.getfield 230, 3) := by decide +kernel
theorem dX7_isRefused_8 : decode cX7_isRefused 8 = .ok (.aload_n 0, 1) := by decide +kernel
theorem dX7_isRefused_9 : decode cX7_isRefused 9 = .ok (.getfield 231, 3) := by decide +kernel
theorem dX7_isRefused_12 : decode cX7_isRefused 12 = .ok (.getfield 119, 3) := by decide +kernel
theorem dX7_isRefused_15 : decode cX7_isRefused 15 = .ok (.invokevirtual 235, 3) := by decide +kernel
theorem dX7_isRefused_18 : decode cX7_isRefused 18 = .ok (.ireturn, 1) := by decide +kernel
theorem dX7_counts_0 : decode cX7_counts 0 = .ok (.aload_n 0, 1) := by decide +kernel
theorem dX7_counts_1 : decode cX7_counts 1 = .ok (.getfield 217, 3) := by decide +kernel
theorem dX7_counts_4 : decode cX7_counts 4 = .ok (.ifCond .ne 14, 3) := by decide +kernel
theorem dX7_counts_7 : decode cX7_counts 7 = .ok (.aload_n 0, 1) := by decide +kernel
theorem dX7_counts_8 : decode cX7_counts 8 = .ok (.invokestatic 213, 3) := by decide +kernel
theorem dX7_counts_11 : decode cX7_counts 11 = .ok (.ifCond .ne 7, 3) := by decide +kernel
theorem dX7_counts_14 : decode cX7_counts 14 = .ok (.iconst 1, 1) := by decide +kernel
theorem dX7_counts_15 : decode cX7_counts 15 = .ok (.goto 4, 3) := by decide +kernel
theorem dX7_counts_18 : decode cX7_counts 18 = .ok (.iconst 0, 1) := by decide +kernel
theorem dX7_counts_19 : decode cX7_counts 19 = .ok (.ireturn, 1) := by decide +kernel
theorem dX7_countRefused_0 : decode cX7_countRefused 0 = .ok (.iconst 0, 1) := by decide +kernel
theorem dX7_countRefused_1 : decode cX7_countRefused 1 = .ok (.istore_n 2, 1) := by decide +kernel
theorem dX7_countRefused_2 : decode cX7_countRefused 2 = .ok (.iconst 0, 1) := by decide +kernel
theorem dX7_countRefused_3 : decode cX7_countRefused 3 = .ok (.istore_n 3, 1) := by decide +kernel
theorem dX7_countRefused_4 : decode cX7_countRefused 4 = .ok (.iload_n 3, 1) := by decide +kernel
theorem dX7_countRefused_5 : decode cX7_countRefused 5 = .ok (.aload_n 0, 1) := by decide +kernel
theorem dX7_countRefused_6 : decode cX7_countRefused 6 = .ok (.getfield 22, 3) := by decide +kernel
theorem dX7_countRefused_9 : decode cX7_countRefused 9 = .ok (.invokevirtual 46, 3) := by decide +kernel
theorem dX7_countRefused_12 : decode cX7_countRefused 12 = .ok (.if_icmp .ge 42, 3) := by decide +kernel
theorem dX7_countRefused_15 : decode cX7_countRefused 15 = .ok (.aload_n 0, 1) := by decide +kernel
theorem dX7_countRefused_16 : decode cX7_countRefused 16 = .ok (.getfield 22, 3) := by decide +kernel
theorem dX7_countRefused_19 : decode cX7_countRefused 19 = .ok (.iload_n 3, 1) := by decide +kernel
theorem dX7_countRefused_20 : decode cX7_countRefused 20 = .ok (.invokevirtual 156, 3) := by decide +kernel
theorem dX7_countRefused_23 : decode cX7_countRefused 23 = .ok (.checkcast 204, 3) := by decide +kernel
theorem dX7_countRefused_26 : decode cX7_countRefused 26 = .ok (.astore 4, 2) := by decide +kernel
theorem dX7_countRefused_28 : decode cX7_countRefused 28 = .ok (.aload 4, 2) := by decide +kernel
theorem dX7_countRefused_30 : decode cX7_countRefused 30 = .ok (.getfield 226, 3) := by decide +kernel
theorem dX7_countRefused_33 : decode cX7_countRefused 33 = .ok (.aload_n 1, 1) := by decide +kernel
theorem dX7_countRefused_34 : decode cX7_countRefused 34 = .ok (.if_acmp .ne 14, 3) := by decide +kernel
theorem dX7_countRefused_37 : decode cX7_countRefused 37 = .ok (.aload 4, 2) := by decide +kernel
theorem dX7_countRefused_39 : decode cX7_countRefused 39 = .ok (.invokestatic 213, 3) := by decide +kernel
theorem dX7_countRefused_42 : decode cX7_countRefused 42 = .ok (.ifCond .eq 6, 3) := by decide +kernel
theorem dX7_countRefused_45 : decode cX7_countRefused 45 = .ok (.iinc 2 1, 3) := by decide +kernel
theorem dX7_countRefused_48 : decode cX7_countRefused 48 = .ok (.iinc 3 1, 3) := by decide +kernel
theorem dX7_countRefused_51 : decode cX7_countRefused 51 = .ok (.goto (-47), 3) := by decide +kernel
theorem dX7_countRefused_54 : decode cX7_countRefused 54 = .ok (.iload_n 2, 1) := by decide +kernel
theorem dX7_countRefused_55 : decode cX7_countRefused 55 = .ok (.ireturn, 1) := by decide +kernel
theorem dX7_best_0 : decode cX7_best 0 = .ok (.aload_n 0, 1) := by decide +kernel
theorem dX7_best_1 : decode cX7_best 1 = .ok (.iload_n 1, 1) := by decide +kernel
theorem dX7_best_2 : decode cX7_best 2 = .ok (.invokevirtual 171, 3) := by decide +kernel
theorem dX7_best_5 : decode cX7_best 5 = .ok (.astore_n 3, 1) := by decide +kernel
theorem dX7_best_6 : decode cX7_best 6 = .ok (.iload_n 2, 1) := by decide +kernel
theorem dX7_best_7 : decode cX7_best 7 = .ok (.invokestatic 191, 3) := by decide +kernel
theorem dX7_best_10 : decode cX7_best 10 = .ok (.aload_n 0, 1) := by decide +kernel
theorem dX7_best_11 : decode cX7_best 11 = .ok (.aload_n 3, 1) := by decide +kernel
theorem dX7_best_12 : decode cX7_best 12 = .ok (.iload_n 2, 1) := by decide +kernel
theorem dX7_best_13 : decode cX7_best 13 = .ok (.aconst_null, 1) := by decide +kernel
theorem dX7_best_14 : decode cX7_best 14 = .ok (.invokevirtual 239, 3) := by decide +kernel
theorem dX7_best_17 : decode cX7_best 17 = .ok (.astore 4, 2) := by decide +kernel
theorem dX7_best_19 : decode cX7_best 19 = .ok (.aload 4, 2) := by decide +kernel
theorem dX7_best_21 : decode cX7_best 21 = .ok (.ifnonnull 7, 3) := by decide +kernel
theorem dX7_best_24 : decode cX7_best 24 = .ok (.iconst (-1), 1) := by decide +kernel
theorem dX7_best_25 : decode cX7_best 25 = .ok (.goto 8, 3) := by decide +kernel
theorem dX7_best_28 : decode cX7_best 28 = .ok (.aload 4, 2) := by decide +kernel
theorem dX7_best_30 : decode cX7_best 30 = .ok (.getfield 243, 3) := by decide +kernel
theorem dX7_best_33 : decode cX7_best 33 = .ok (.ireturn, 1) := by decide +kernel
theorem dX7_bestAnew_0 : decode cX7_bestAnew 0 = .ok (.aload_n 0, 1) := by decide +kernel
theorem dX7_bestAnew_1 : decode cX7_bestAnew 1 = .ok (.iload_n 1, 1) := by decide +kernel
theorem dX7_bestAnew_2 : decode cX7_bestAnew 2 = .ok (.invokevirtual 171, 3) := by decide +kernel
theorem dX7_bestAnew_5 : decode cX7_bestAnew 5 = .ok (.astore_n 3, 1) := by decide +kernel
theorem dX7_bestAnew_6 : decode cX7_bestAnew 6 = .ok (.iload_n 2, 1) := by decide +kernel
theorem dX7_bestAnew_7 : decode cX7_bestAnew 7 = .ok (.invokestatic 191, 3) := by decide +kernel
theorem dX7_bestAnew_10 : decode cX7_bestAnew 10 = .ok (.iconst (-1), 1) := by decide +kernel
theorem dX7_bestAnew_11 : decode cX7_bestAnew 11 = .ok (.istore 4, 2) := by decide +kernel
theorem dX7_bestAnew_13 : decode cX7_bestAnew 13 = .ok (.iconst 0, 1) := by decide +kernel
theorem dX7_bestAnew_14 : decode cX7_bestAnew 14 = .ok (.istore 5, 2) := by decide +kernel
theorem dX7_bestAnew_16 : decode cX7_bestAnew 16 = .ok (.iconst 0, 1) := by decide +kernel
theorem dX7_bestAnew_17 : decode cX7_bestAnew 17 = .ok (.istore 6, 2) := by decide +kernel
theorem dX7_bestAnew_19 : decode cX7_bestAnew 19 = .ok (.iload 6, 2) := by decide +kernel
theorem dX7_bestAnew_21 : decode cX7_bestAnew 21 = .ok (.aload_n 0, 1) := by decide +kernel
theorem dX7_bestAnew_22 : decode cX7_bestAnew 22 = .ok (.getfield 22, 3) := by decide +kernel
theorem dX7_bestAnew_25 : decode cX7_bestAnew 25 = .ok (.invokevirtual 46, 3) := by decide +kernel
theorem dX7_bestAnew_28 : decode cX7_bestAnew 28 = .ok (.if_icmp .ge 73, 3) := by decide +kernel
theorem dX7_bestAnew_31 : decode cX7_bestAnew 31 = .ok (.aload_n 0, 1) := by decide +kernel
theorem dX7_bestAnew_32 : decode cX7_bestAnew 32 = .ok (.getfield 22, 3) := by decide +kernel
theorem dX7_bestAnew_35 : decode cX7_bestAnew 35 = .ok (.iload 6, 2) := by decide +kernel
theorem dX7_bestAnew_37 : decode cX7_bestAnew 37 = .ok (.invokevirtual 156, 3) := by decide +kernel
theorem dX7_bestAnew_40 : decode cX7_bestAnew 40 = .ok (.checkcast 204, 3) := by decide +kernel
theorem dX7_bestAnew_43 : decode cX7_bestAnew 43 = .ok (.astore 7, 2) := by decide +kernel
theorem dX7_bestAnew_45 : decode cX7_bestAnew 45 = .ok (.aload 7, 2) := by decide +kernel
theorem dX7_bestAnew_47 : decode cX7_bestAnew 47 = .ok (.aload_n 3, 1) := by decide +kernel
theorem dX7_bestAnew_48 : decode cX7_bestAnew 48 = .ok (.iload_n 2, 1) := by decide +kernel
theorem dX7_bestAnew_49 : decode cX7_bestAnew 49 = .ok (.invokevirtual 246, 3) := by decide +kernel
theorem dX7_bestAnew_52 : decode cX7_bestAnew 52 = .ok (.ifCond .eq 43, 3) := by decide +kernel
theorem dX7_bestAnew_55 : decode cX7_bestAnew 55 = .ok (.aload_n 0, 1) := by decide +kernel
theorem dX7_bestAnew_56 : decode cX7_bestAnew 56 = .ok (.aload 7, 2) := by decide +kernel
theorem dX7_bestAnew_58 : decode cX7_bestAnew 58 = .ok (.invokevirtual 250, 3) := by decide +kernel
theorem dX7_bestAnew_61 : decode cX7_bestAnew 61 = .ok (.ifCond .eq 34, 3) := by decide +kernel
theorem dX7_bestAnew_64 : decode cX7_bestAnew 64 = .ok (.iload 4, 2) := by decide +kernel
theorem dX7_bestAnew_66 : decode cX7_bestAnew 66 = .ok (.iconst (-1), 1) := by decide +kernel
theorem dX7_bestAnew_67 : decode cX7_bestAnew 67 = .ok (.if_icmp .eq 15, 3) := by decide +kernel
theorem dX7_bestAnew_70 : decode cX7_bestAnew 70 = .ok (.aload_n 0, 1) := by decide +kernel
theorem dX7_bestAnew_71 : decode cX7_bestAnew 71 = .ok (.getfield 31, 3) := by decide +kernel
theorem dX7_bestAnew_74 : decode cX7_bestAnew 74 = .ok (.getfield 122, 3) := by decide +kernel
theorem dX7_bestAnew_77 : decode cX7_bestAnew 77 = .ok (.iload 5, 2) := by decide +kernel
theorem dX7_bestAnew_79 : decode cX7_bestAnew 79 = .ok (.if_icmp .ge 16, 3) := by decide +kernel
theorem dX7_bestAnew_82 : decode cX7_bestAnew 82 = .ok (.iload 6, 2) := by decide +kernel
theorem dX7_bestAnew_84 : decode cX7_bestAnew 84 = .ok (.istore 4, 2) := by decide +kernel
theorem dX7_bestAnew_86 : decode cX7_bestAnew 86 = .ok (.aload_n 0, 1) := by decide +kernel
theorem dX7_bestAnew_87 : decode cX7_bestAnew 87 = .ok (.getfield 31, 3) := by decide +kernel
theorem dX7_bestAnew_90 : decode cX7_bestAnew 90 = .ok (.getfield 122, 3) := by decide +kernel
theorem dX7_bestAnew_93 : decode cX7_bestAnew 93 = .ok (.istore 5, 2) := by decide +kernel
theorem dX7_bestAnew_95 : decode cX7_bestAnew 95 = .ok (.iinc 6 1, 3) := by decide +kernel
theorem dX7_bestAnew_98 : decode cX7_bestAnew 98 = .ok (.goto (-79), 3) := by decide +kernel
theorem dX7_bestAnew_101 : decode cX7_bestAnew 101 = .ok (.iload 4, 2) := by decide +kernel
theorem dX7_bestAnew_103 : decode cX7_bestAnew 103 = .ok (.ireturn, 1) := by decide +kernel
theorem dX7_place_0 : decode cX7_place 0 = .ok (.aload_n 0, 1) := by decide +kernel
theorem dX7_place_1 : decode cX7_place 1 = .ok (.iload_n 1, 1) := by decide +kernel
theorem dX7_place_2 : decode cX7_place 2 = .ok (.invokevirtual 171, 3) := by decide +kernel
theorem dX7_place_5 : decode cX7_place 5 = .ok (.astore_n 3, 1) := by decide +kernel
theorem dX7_place_6 : decode cX7_place 6 = .ok (.iload_n 2, 1) := by decide +kernel
theorem dX7_place_7 : decode cX7_place 7 = .ok (.invokestatic 191, 3) := by decide +kernel
theorem dX7_place_10 : decode cX7_place 10 = .ok (.aload_n 0, 1) := by decide +kernel
theorem dX7_place_11 : decode cX7_place 11 = .ok (.aload_n 3, 1) := by decide +kernel
theorem dX7_place_12 : decode cX7_place 12 = .ok (.iload_n 2, 1) := by decide +kernel
theorem dX7_place_13 : decode cX7_place 13 = .ok (.aconst_null, 1) := by decide +kernel
theorem dX7_place_14 : decode cX7_place 14 = .ok (.invokevirtual 253, 3) := by decide +kernel
theorem dX7_place_17 : decode cX7_place 17 = .ok (.ireturn, 1) := by decide +kernel
theorem dX7_at_0 : decode cX7_at 0 = .ok (.aload_n 0, 1) := by decide +kernel
theorem dX7_at_1 : decode cX7_at 1 = .ok (.iload_n 1, 1) := by decide +kernel
theorem dX7_at_2 : decode cX7_at 2 = .ok (.invokevirtual 171, 3) := by decide +kernel
theorem dX7_at_5 : decode cX7_at 5 = .ok (.astore_n 3, 1) := by decide +kernel
theorem dX7_at_6 : decode cX7_at 6 = .ok (.iconst 0, 1) := by decide +kernel
theorem dX7_at_7 : decode cX7_at 7 = .ok (.istore 4, 2) := by decide +kernel
theorem dX7_at_9 : decode cX7_at 9 = .ok (.iload 4, 2) := by decide +kernel
theorem dX7_at_11 : decode cX7_at 11 = .ok (.bipush 8, 2) := by decide +kernel
theorem dX7_at_13 : decode cX7_at 13 = .ok (.if_icmp .ge 40, 3) := by decide +kernel
theorem dX7_at_16 : decode cX7_at 16 = .ok (.aload_n 0, 1) := by decide +kernel
theorem dX7_at_17 : decode cX7_at 17 = .ok (.aload_n 3, 1) := by decide +kernel
theorem dX7_at_18 : decode cX7_at 18 = .ok (.iload 4, 2) := by decide +kernel
theorem dX7_at_20 : decode cX7_at 20 = .ok (.aconst_null, 1) := by decide +kernel
theorem dX7_at_21 : decode cX7_at 21 = .ok (.invokevirtual 239, 3) := by decide +kernel
theorem dX7_at_24 : decode cX7_at 24 = .ok (.astore 5, 2) := by decide +kernel
theorem dX7_at_26 : decode cX7_at 26 = .ok (.aload 5, 2) := by decide +kernel
theorem dX7_at_28 : decode cX7_at 28 = .ok (.ifnull 19, 3) := by decide +kernel
theorem dX7_at_31 : decode cX7_at 31 = .ok (.aload_n 0, 1) := by decide +kernel
theorem dX7_at_32 : decode cX7_at 32 = .ok (.aload 5, 2) := by decide +kernel
theorem dX7_at_34 : decode cX7_at 34 = .ok (.invokevirtual 257, 3) := by decide +kernel
theorem dX7_at_37 : decode cX7_at 37 = .ok (.iload_n 2, 1) := by decide +kernel
theorem dX7_at_38 : decode cX7_at 38 = .ok (.if_icmp .ne 9, 3) := by decide +kernel
theorem dX7_at_41 : decode cX7_at 41 = .ok (.aload 5, 2) := by decide +kernel
theorem dX7_at_43 : decode cX7_at 43 = .ok (.getfield 243, 3) := by decide +kernel
theorem dX7_at_46 : decode cX7_at 46 = .ok (.ireturn, 1) := by decide +kernel
theorem dX7_at_47 : decode cX7_at 47 = .ok (.iinc 4 1, 3) := by decide +kernel
theorem dX7_at_50 : decode cX7_at 50 = .ok (.goto (-41), 3) := by decide +kernel
theorem dX7_at_53 : decode cX7_at 53 = .ok (.new 72, 3) := by decide +kernel
theorem dX7_at_56 : decode cX7_at 56 = .ok (.dup, 1) := by decide +kernel
theorem dX7_at_57 : decode cX7_at 57 = .ok (.ldc_w 261, 3) := by decide +kernel
theorem dX7_at_60 : decode cX7_at 60 = .ok (.invokespecial 76, 3) := by decide +kernel
theorem dX7_at_63 : decode cX7_at 63 = .ok (.athrow, 1) := by decide +kernel
theorem dX7_placeWithout_0 : decode cX7_placeWithout 0 = .ok (.aload_n 0, 1) := by decide +kernel
theorem dX7_placeWithout_1 : decode cX7_placeWithout 1 = .ok (.iload_n 1, 1) := by decide +kernel
theorem dX7_placeWithout_2 : decode cX7_placeWithout 2 = .ok (.invokevirtual 209, 3) := by decide +kernel
theorem dX7_placeWithout_5 : decode cX7_placeWithout 5 = .ok (.astore_n 2, 1) := by decide +kernel
theorem dX7_placeWithout_6 : decode cX7_placeWithout 6 = .ok (.aload_n 0, 1) := by decide +kernel
theorem dX7_placeWithout_7 : decode cX7_placeWithout 7 = .ok (.aload_n 2, 1) := by decide +kernel
theorem dX7_placeWithout_8 : decode cX7_placeWithout 8 = .ok (.getfield 226, 3) := by decide +kernel
theorem dX7_placeWithout_11 : decode cX7_placeWithout 11 = .ok (.aload_n 2, 1) := by decide +kernel
theorem dX7_placeWithout_12 : decode cX7_placeWithout 12 = .ok (.getfield 263, 3) := by decide +kernel
theorem dX7_placeWithout_15 : decode cX7_placeWithout 15 = .ok (.aload_n 2, 1) := by decide +kernel
theorem dX7_placeWithout_16 : decode cX7_placeWithout 16 = .ok (.invokevirtual 253, 3) := by decide +kernel
theorem dX7_placeWithout_19 : decode cX7_placeWithout 19 = .ok (.ireturn, 1) := by decide +kernel
theorem dX7_bestRun_0 : decode cX7_bestRun 0 = .ok (.aconst_null, 1) := by decide +kernel
theorem dX7_bestRun_1 : decode cX7_bestRun 1 = .ok (.astore 4, 2) := by decide +kernel
theorem dX7_bestRun_3 : decode cX7_bestRun 3 = .ok (.iconst 0, 1) := by decide +kernel
theorem dX7_bestRun_4 : decode cX7_bestRun 4 = .ok (.istore 5, 2) := by decide +kernel
theorem dX7_bestRun_6 : decode cX7_bestRun 6 = .ok (.iload 5, 2) := by decide +kernel
theorem dX7_bestRun_8 : decode cX7_bestRun 8 = .ok (.aload_n 0, 1) := by decide +kernel
theorem dX7_bestRun_9 : decode cX7_bestRun 9 = .ok (.getfield 22, 3) := by decide +kernel
theorem dX7_bestRun_12 : decode cX7_bestRun 12 = .ok (.invokevirtual 46, 3) := by decide +kernel
theorem dX7_bestRun_15 : decode cX7_bestRun 15 = .ok (.if_icmp .ge 66, 3) := by decide +kernel
theorem dX7_bestRun_18 : decode cX7_bestRun 18 = .ok (.aload_n 0, 1) := by decide +kernel
theorem dX7_bestRun_19 : decode cX7_bestRun 19 = .ok (.getfield 22, 3) := by decide +kernel
theorem dX7_bestRun_22 : decode cX7_bestRun 22 = .ok (.iload 5, 2) := by decide +kernel
theorem dX7_bestRun_24 : decode cX7_bestRun 24 = .ok (.invokevirtual 156, 3) := by decide +kernel
theorem dX7_bestRun_27 : decode cX7_bestRun 27 = .ok (.checkcast 204, 3) := by decide +kernel
theorem dX7_bestRun_30 : decode cX7_bestRun 30 = .ok (.astore 6, 2) := by decide +kernel
theorem dX7_bestRun_32 : decode cX7_bestRun 32 = .ok (.aload 6, 2) := by decide +kernel
theorem dX7_bestRun_34 : decode cX7_bestRun 34 = .ok (.aload_n 3, 1) := by decide +kernel
theorem dX7_bestRun_35 : decode cX7_bestRun 35 = .ok (.if_acmp .eq 40, 3) := by decide +kernel
theorem dX7_bestRun_38 : decode cX7_bestRun 38 = .ok (.aload 6, 2) := by decide +kernel
theorem dX7_bestRun_40 : decode cX7_bestRun 40 = .ok (.aload_n 1, 1) := by decide +kernel
theorem dX7_bestRun_41 : decode cX7_bestRun 41 = .ok (.iload_n 2, 1) := by decide +kernel
theorem dX7_bestRun_42 : decode cX7_bestRun 42 = .ok (.invokevirtual 246, 3) := by decide +kernel
theorem dX7_bestRun_45 : decode cX7_bestRun 45 = .ok (.ifCond .eq 30, 3) := by decide +kernel
theorem dX7_bestRun_48 : decode cX7_bestRun 48 = .ok (.aload 6, 2) := by decide +kernel
theorem dX7_bestRun_50 : decode cX7_bestRun 50 = .ok (.invokestatic 266, 3) := by decide +kernel
theorem dX7_bestRun_53 : decode cX7_bestRun 53 = .ok (.ifCond .eq 22, 3) := by decide +kernel
theorem dX7_bestRun_56 : decode cX7_bestRun 56 = .ok (.aload 4, 2) := by decide +kernel
theorem dX7_bestRun_58 : decode cX7_bestRun 58 = .ok (.ifnull 13, 3) := by decide +kernel
theorem dX7_bestRun_61 : decode cX7_bestRun 61 = .ok (.aload 6, 2) := by decide +kernel
theorem dX7_bestRun_63 : decode cX7_bestRun 63 = .ok (.aload 4, 2) := by decide +kernel
theorem dX7_bestRun_65 : decode cX7_bestRun 65 = .ok (.invokevirtual 269, 3) := by decide +kernel
theorem dX7_bestRun_68 : decode cX7_bestRun 68 = .ok (.ifCond .eq 7, 3) := by decide +kernel
theorem dX7_bestRun_71 : decode cX7_bestRun 71 = .ok (.aload 6, 2) := by decide +kernel
theorem dX7_bestRun_73 : decode cX7_bestRun 73 = .ok (.astore 4, 2) := by decide +kernel
theorem dX7_bestRun_75 : decode cX7_bestRun 75 = .ok (.iinc 5 1, 3) := by decide +kernel
theorem dX7_bestRun_78 : decode cX7_bestRun 78 = .ok (.goto (-72), 3) := by decide +kernel
theorem dX7_bestRun_81 : decode cX7_bestRun 81 = .ok (.aload 4, 2) := by decide +kernel
theorem dX7_bestRun_83 : decode cX7_bestRun 83 = .ok (.areturn, 1) := by decide +kernel
theorem dX7_countsAnew_0 : decode cX7_countsAnew 0 = .ok (.aload_n 1, 1) := by decide +kernel
theorem dX7_countsAnew_1 : decode cX7_countsAnew 1 = .ok (.getfield 217, 3) := by decide +kernel
theorem dX7_countsAnew_4 : decode cX7_countsAnew 4 = .ok (.ifCond .eq 5, 3) := by decide +kernel
theorem dX7_countsAnew_7 : decode cX7_countsAnew 7 = .ok (.iconst 0, 1) := by decide +kernel
theorem dX7_countsAnew_8 : decode cX7_countsAnew 8 = .ok (.ireturn, 1) := by decide +kernel
theorem dX7_countsAnew_9 : decode cX7_countsAnew 9 = .ok (.aload_n 1, 1) := by decide +kernel
theorem dX7_countsAnew_10 : decode cX7_countsAnew 10 = .ok (.getfield 231, 3) := by decide +kernel
theorem dX7_countsAnew_13 : decode cX7_countsAnew 13 = .ok (.aload_n 0, 1) := by decide +kernel
theorem dX7_countsAnew_14 : decode cX7_countsAnew 14 = .ok (.getfield 31, 3) := by decide +kernel
theorem dX7_countsAnew_17 : decode cX7_countsAnew 17 = .ok (.sipush 500, 3) := by decide +kernel
theorem dX7_countsAnew_20 : decode cX7_countsAnew 20 = .ok (.invokevirtual 139, 3) := by decide +kernel
theorem dX7_countsAnew_23 : decode cX7_countsAnew 23 = .ok (.aload_n 0, 1) := by decide +kernel
theorem dX7_countsAnew_24 : decode cX7_countsAnew 24 = .ok (.getfield 31, 3) := by decide +kernel
theorem dX7_countsAnew_27 : decode cX7_countsAnew 27 = .ok (.invokevirtual 198, 3) := by decide +kernel
theorem dX7_countsAnew_30 : decode cX7_countsAnew 30 = .ok (.ifCond .eq 25, 3) := by decide +kernel
theorem dX7_countsAnew_33 : decode cX7_countsAnew 33 = .ok (.aload_n 1, 1) := by decide +kernel
theorem dX7_countsAnew_34 : decode cX7_countsAnew 34 = .ok (.getfield 226, 3) := by decide +kernel
theorem dX7_countsAnew_37 : decode cX7_countsAnew 37 = .ok (.aload_n 1, 1) := by decide +kernel
theorem dX7_countsAnew_38 : decode cX7_countsAnew 38 = .ok (.getfield 230, 3) := by decide +kernel
theorem dX7_countsAnew_41 : decode cX7_countsAnew 41 = .ok (.aload_n 0, 1) := by decide +kernel
theorem dX7_countsAnew_42 : decode cX7_countsAnew 42 = .ok (.getfield 31, 3) := by decide +kernel
theorem dX7_countsAnew_45 : decode cX7_countsAnew 45 = .ok (.invokevirtual 235, 3) := by decide +kernel
theorem dX7_countsAnew_48 : decode cX7_countsAnew 48 = .ok (.ifCond .ne 7, 3) := by decide +kernel
theorem dX7_countsAnew_51 : decode cX7_countsAnew 51 = .ok (.iconst 1, 1) := by decide +kernel
theorem dX7_countsAnew_52 : decode cX7_countsAnew 52 = .ok (.goto 4, 3) := by decide +kernel
theorem dX7_countsAnew_55 : decode cX7_countsAnew 55 = .ok (.iconst 0, 1) := by decide +kernel
theorem dX7_countsAnew_56 : decode cX7_countsAnew 56 = .ok (.ireturn, 1) := by decide +kernel
theorem dX7_placeFor_0 : decode cX7_placeFor 0 = .ok (.aload_n 0, 1) := by decide +kernel
theorem dX7_placeFor_1 : decode cX7_placeFor 1 = .ok (.aload_n 1, 1) := by decide +kernel
theorem dX7_placeFor_2 : decode cX7_placeFor 2 = .ok (.iload_n 2, 1) := by decide +kernel
theorem dX7_placeFor_3 : decode cX7_placeFor 3 = .ok (.aload_n 3, 1) := by decide +kernel
theorem dX7_placeFor_4 : decode cX7_placeFor 4 = .ok (.invokevirtual 239, 3) := by decide +kernel
theorem dX7_placeFor_7 : decode cX7_placeFor 7 = .ok (.astore 4, 2) := by decide +kernel
theorem dX7_placeFor_9 : decode cX7_placeFor 9 = .ok (.aload 4, 2) := by decide +kernel
theorem dX7_placeFor_11 : decode cX7_placeFor 11 = .ok (.ifnonnull 5, 3) := by decide +kernel
theorem dX7_placeFor_14 : decode cX7_placeFor 14 = .ok (.iconst (-1), 1) := by decide +kernel
theorem dX7_placeFor_15 : decode cX7_placeFor 15 = .ok (.ireturn, 1) := by decide +kernel
theorem dX7_placeFor_16 : decode cX7_placeFor 16 = .ok (.iconst 1, 1) := by decide +kernel
theorem dX7_placeFor_17 : decode cX7_placeFor 17 = .ok (.istore 5, 2) := by decide +kernel
theorem dX7_placeFor_19 : decode cX7_placeFor 19 = .ok (.iconst 0, 1) := by decide +kernel
theorem dX7_placeFor_20 : decode cX7_placeFor 20 = .ok (.istore 6, 2) := by decide +kernel
theorem dX7_placeFor_22 : decode cX7_placeFor 22 = .ok (.iload 6, 2) := by decide +kernel
theorem dX7_placeFor_24 : decode cX7_placeFor 24 = .ok (.bipush 8, 2) := by decide +kernel
theorem dX7_placeFor_26 : decode cX7_placeFor 26 = .ok (.if_icmp .ge 40, 3) := by decide +kernel
theorem dX7_placeFor_29 : decode cX7_placeFor 29 = .ok (.aload_n 0, 1) := by decide +kernel
theorem dX7_placeFor_30 : decode cX7_placeFor 30 = .ok (.aload_n 1, 1) := by decide +kernel
theorem dX7_placeFor_31 : decode cX7_placeFor 31 = .ok (.iload 6, 2) := by decide +kernel
theorem dX7_placeFor_33 : decode cX7_placeFor 33 = .ok (.aload_n 3, 1) := by decide +kernel
theorem dX7_placeFor_34 : decode cX7_placeFor 34 = .ok (.invokevirtual 239, 3) := by decide +kernel
theorem dX7_placeFor_37 : decode cX7_placeFor 37 = .ok (.astore 7, 2) := by decide +kernel
theorem dX7_placeFor_39 : decode cX7_placeFor 39 = .ok (.aload 7, 2) := by decide +kernel
theorem dX7_placeFor_41 : decode cX7_placeFor 41 = .ok (.ifnull 19, 3) := by decide +kernel
theorem dX7_placeFor_44 : decode cX7_placeFor 44 = .ok (.aload 7, 2) := by decide +kernel
theorem dX7_placeFor_46 : decode cX7_placeFor 46 = .ok (.getfield 272, 3) := by decide +kernel
theorem dX7_placeFor_49 : decode cX7_placeFor 49 = .ok (.aload 4, 2) := by decide +kernel
theorem dX7_placeFor_51 : decode cX7_placeFor 51 = .ok (.getfield 272, 3) := by decide +kernel
theorem dX7_placeFor_54 : decode cX7_placeFor 54 = .ok (.if_icmp .ge 6, 3) := by decide +kernel
theorem dX7_placeFor_57 : decode cX7_placeFor 57 = .ok (.iinc 5 1, 3) := by decide +kernel
theorem dX7_placeFor_60 : decode cX7_placeFor 60 = .ok (.iinc 6 1, 3) := by decide +kernel
theorem dX7_placeFor_63 : decode cX7_placeFor 63 = .ok (.goto (-41), 3) := by decide +kernel
theorem dX7_placeFor_66 : decode cX7_placeFor 66 = .ok (.iload 5, 2) := by decide +kernel
theorem dX7_placeFor_68 : decode cX7_placeFor 68 = .ok (.ireturn, 1) := by decide +kernel
theorem dX7_countAhead_0 : decode cX7_countAhead 0 = .ok (.iconst 0, 1) := by decide +kernel
theorem dX7_countAhead_1 : decode cX7_countAhead 1 = .ok (.istore_n 2, 1) := by decide +kernel
theorem dX7_countAhead_2 : decode cX7_countAhead 2 = .ok (.iconst 0, 1) := by decide +kernel
theorem dX7_countAhead_3 : decode cX7_countAhead 3 = .ok (.istore_n 3, 1) := by decide +kernel
theorem dX7_countAhead_4 : decode cX7_countAhead 4 = .ok (.iload_n 3, 1) := by decide +kernel
theorem dX7_countAhead_5 : decode cX7_countAhead 5 = .ok (.bipush 8, 2) := by decide +kernel
theorem dX7_countAhead_7 : decode cX7_countAhead 7 = .ok (.if_icmp .ge 38, 3) := by decide +kernel
theorem dX7_countAhead_10 : decode cX7_countAhead 10 = .ok (.aload_n 0, 1) := by decide +kernel
theorem dX7_countAhead_11 : decode cX7_countAhead 11 = .ok (.aload_n 1, 1) := by decide +kernel
theorem dX7_countAhead_12 : decode cX7_countAhead 12 = .ok (.getfield 226, 3) := by decide +kernel
theorem dX7_countAhead_15 : decode cX7_countAhead 15 = .ok (.iload_n 3, 1) := by decide +kernel
theorem dX7_countAhead_16 : decode cX7_countAhead 16 = .ok (.aconst_null, 1) := by decide +kernel
theorem dX7_countAhead_17 : decode cX7_countAhead 17 = .ok (.invokevirtual 239, 3) := by decide +kernel
theorem dX7_countAhead_20 : decode cX7_countAhead 20 = .ok (.astore 4, 2) := by decide +kernel
theorem dX7_countAhead_22 : decode cX7_countAhead 22 = .ok (.aload 4, 2) := by decide +kernel
theorem dX7_countAhead_24 : decode cX7_countAhead 24 = .ok (.ifnull 15, 3) := by decide +kernel
theorem dX7_countAhead_27 : decode cX7_countAhead 27 = .ok (.aload 4, 2) := by decide +kernel
theorem dX7_countAhead_29 : decode cX7_countAhead 29 = .ok (.aload_n 1, 1) := by decide +kernel
theorem dX7_countAhead_30 : decode cX7_countAhead 30 = .ok (.invokevirtual 269, 3) := by decide +kernel
theorem dX7_countAhead_33 : decode cX7_countAhead 33 = .ok (.ifCond .eq 6, 3) := by decide +kernel
theorem dX7_countAhead_36 : decode cX7_countAhead 36 = .ok (.iinc 2 1, 3) := by decide +kernel
theorem dX7_countAhead_39 : decode cX7_countAhead 39 = .ok (.iinc 3 1, 3) := by decide +kernel
theorem dX7_countAhead_42 : decode cX7_countAhead 42 = .ok (.goto (-38), 3) := by decide +kernel
theorem dX7_countAhead_45 : decode cX7_countAhead 45 = .ok (.iload_n 2, 1) := by decide +kernel
theorem dX7_countAhead_46 : decode cX7_countAhead 46 = .ok (.ireturn, 1) := by decide +kernel
theorem dX7_estimate_0 : decode cX7_estimate 0 = .ok (.aload_n 0, 1) := by decide +kernel
theorem dX7_estimate_1 : decode cX7_estimate 1 = .ok (.iload_n 1, 1) := by decide +kernel
theorem dX7_estimate_2 : decode cX7_estimate 2 = .ok (.invokevirtual 171, 3) := by decide +kernel
theorem dX7_estimate_5 : decode cX7_estimate 5 = .ok (.astore_n 3, 1) := by decide +kernel
theorem dX7_estimate_6 : decode cX7_estimate 6 = .ok (.iload_n 2, 1) := by decide +kernel
theorem dX7_estimate_7 : decode cX7_estimate 7 = .ok (.invokestatic 191, 3) := by decide +kernel
theorem dX7_estimate_10 : decode cX7_estimate 10 = .ok (.aload_n 0, 1) := by decide +kernel
theorem dX7_estimate_11 : decode cX7_estimate 11 = .ok (.aload_n 3, 1) := by decide +kernel
theorem dX7_estimate_12 : decode cX7_estimate 12 = .ok (.iload_n 2, 1) := by decide +kernel
theorem dX7_estimate_13 : decode cX7_estimate 13 = .ok (.invokevirtual 273, 3) := by decide +kernel
theorem dX7_estimate_16 : decode cX7_estimate 16 = .ok (.ireturn, 1) := by decide +kernel
theorem dX7_offer_0 : decode cX7_offer 0 = .ok (.aload_n 0, 1) := by decide +kernel
theorem dX7_offer_1 : decode cX7_offer 1 = .ok (.iload_n 1, 1) := by decide +kernel
theorem dX7_offer_2 : decode cX7_offer 2 = .ok (.invokevirtual 171, 3) := by decide +kernel
theorem dX7_offer_5 : decode cX7_offer 5 = .ok (.astore_n 3, 1) := by decide +kernel
theorem dX7_offer_6 : decode cX7_offer 6 = .ok (.iload_n 2, 1) := by decide +kernel
theorem dX7_offer_7 : decode cX7_offer 7 = .ok (.invokestatic 191, 3) := by decide +kernel
theorem dX7_offer_10 : decode cX7_offer 10 = .ok (.aload_n 0, 1) := by decide +kernel
theorem dX7_offer_11 : decode cX7_offer 11 = .ok (.aload_n 3, 1) := by decide +kernel
theorem dX7_offer_12 : decode cX7_offer 12 = .ok (.iload_n 2, 1) := by decide +kernel
theorem dX7_offer_13 : decode cX7_offer 13 = .ok (.aconst_null, 1) := by decide +kernel
theorem dX7_offer_14 : decode cX7_offer 14 = .ok (.invokevirtual 239, 3) := by decide +kernel
theorem dX7_offer_17 : decode cX7_offer 17 = .ok (.ifnull 24, 3) := by decide +kernel
theorem dX7_offer_20 : decode cX7_offer 20 = .ok (.aload_n 0, 1) := by decide +kernel
theorem dX7_offer_21 : decode cX7_offer 21 = .ok (.aload_n 3, 1) := by decide +kernel
theorem dX7_offer_22 : decode cX7_offer 22 = .ok (.iload_n 2, 1) := by decide +kernel
theorem dX7_offer_23 : decode cX7_offer 23 = .ok (.invokevirtual 277, 3) := by decide +kernel
theorem dX7_offer_26 : decode cX7_offer 26 = .ok (.ifCond .ne 15, 3) := by decide +kernel
theorem dX7_offer_29 : decode cX7_offer 29 = .ok (.aload_n 0, 1) := by decide +kernel
theorem dX7_offer_30 : decode cX7_offer 30 = .ok (.getfield 25, 3) := by decide +kernel
theorem dX7_offer_33 : decode cX7_offer 33 = .ok (.invokevirtual 46, 3) := by decide +kernel
theorem dX7_offer_36 : decode cX7_offer 36 = .ok (.bipush 10, 2) := by decide +kernel
theorem dX7_offer_38 : decode cX7_offer 38 = .ok (.if_icmp .lt 14, 3) := by decide +kernel
theorem dX7_offer_41 : decode cX7_offer 41 = .ok (.new 50, 3) := by decide +kernel
theorem dX7_offer_44 : decode cX7_offer 44 = .ok (.dup, 1) := by decide +kernel
theorem dX7_offer_45 : decode cX7_offer 45 = .ok (.ldc_w 280, 3) := by decide +kernel
theorem dX7_offer_48 : decode cX7_offer 48 = .ok (.invokespecial 54, 3) := by decide +kernel
theorem dX7_offer_51 : decode cX7_offer 51 = .ok (.athrow, 1) := by decide +kernel
theorem dX7_offer_52 : decode cX7_offer 52 = .ok (.aload_n 0, 1) := by decide +kernel
theorem dX7_offer_53 : decode cX7_offer 53 = .ok (.getfield 25, 3) := by decide +kernel
theorem dX7_offer_56 : decode cX7_offer 56 = .ok (.new 282, 3) := by decide +kernel
theorem dX7_offer_59 : decode cX7_offer 59 = .ok (.dup, 1) := by decide +kernel
theorem dX7_offer_60 : decode cX7_offer 60 = .ok (.aload_n 3, 1) := by decide +kernel
theorem dX7_offer_61 : decode cX7_offer 61 = .ok (.iload_n 2, 1) := by decide +kernel
theorem dX7_offer_62 : decode cX7_offer 62 = .ok (.invokespecial 284, 3) := by decide +kernel
theorem dX7_offer_65 : decode cX7_offer 65 = .ok (.invokevirtual 60, 3) := by decide +kernel
theorem dX7_offer_68 : decode cX7_offer 68 = .ok (.pop, 1) := by decide +kernel
theorem dX7_offer_69 : decode cX7_offer 69 = .ok (.aload_n 0, 1) := by decide +kernel
theorem dX7_offer_70 : decode cX7_offer 70 = .ok (.getfield 25, 3) := by decide +kernel
theorem dX7_offer_73 : decode cX7_offer 73 = .ok (.invokevirtual 46, 3) := by decide +kernel
theorem dX7_offer_76 : decode cX7_offer 76 = .ok (.iconst 1, 1) := by decide +kernel
theorem dX7_offer_77 : decode cX7_offer 77 = .ok (.isub, 1) := by decide +kernel
theorem dX7_offer_78 : decode cX7_offer 78 = .ok (.ireturn, 1) := by decide +kernel
theorem dX7_gift_0 : decode cX7_gift 0 = .ok (.iload_n 1, 1) := by decide +kernel
theorem dX7_gift_1 : decode cX7_gift 1 = .ok (.iconst 0, 1) := by decide +kernel
theorem dX7_gift_2 : decode cX7_gift 2 = .ok (.aload_n 0, 1) := by decide +kernel
theorem dX7_gift_3 : decode cX7_gift 3 = .ok (.getfield 25, 3) := by decide +kernel
theorem dX7_gift_6 : decode cX7_gift 6 = .ok (.invokevirtual 46, 3) := by decide +kernel
theorem dX7_gift_9 : decode cX7_gift 9 = .ok (.iconst 1, 1) := by decide +kernel
theorem dX7_gift_10 : decode cX7_gift 10 = .ok (.isub, 1) := by decide +kernel
theorem dX7_gift_11 : decode cX7_gift 11 = .ok (.invokestatic 68, 3) := by decide +kernel
theorem dX7_gift_14 : decode cX7_gift 14 = .ok (.ifCond .ne 14, 3) := by decide +kernel
theorem dX7_gift_17 : decode cX7_gift 17 = .ok (.new 72, 3) := by decide +kernel
theorem dX7_gift_20 : decode cX7_gift 20 = .ok (.dup, 1) := by decide +kernel
theorem dX7_gift_21 : decode cX7_gift 21 = .ok (.ldc_w 287, 3) := by decide +kernel
theorem dX7_gift_24 : decode cX7_gift 24 = .ok (.invokespecial 76, 3) := by decide +kernel
theorem dX7_gift_27 : decode cX7_gift 27 = .ok (.athrow, 1) := by decide +kernel
theorem dX7_gift_28 : decode cX7_gift 28 = .ok (.aload_n 0, 1) := by decide +kernel
theorem dX7_gift_29 : decode cX7_gift 29 = .ok (.getfield 25, 3) := by decide +kernel
theorem dX7_gift_32 : decode cX7_gift 32 = .ok (.iload_n 1, 1) := by decide +kernel
theorem dX7_gift_33 : decode cX7_gift 33 = .ok (.invokevirtual 156, 3) := by decide +kernel
theorem dX7_gift_36 : decode cX7_gift 36 = .ok (.checkcast 282, 3) := by decide +kernel
theorem dX7_gift_39 : decode cX7_gift 39 = .ok (.astore_n 3, 1) := by decide +kernel
theorem dX7_gift_40 : decode cX7_gift 40 = .ok (.iload_n 2, 1) := by decide +kernel
theorem dX7_gift_41 : decode cX7_gift 41 = .ok (.iconst 1, 1) := by decide +kernel
theorem dX7_gift_42 : decode cX7_gift 42 = .ok (.sipush 1000, 3) := by decide +kernel
theorem dX7_gift_45 : decode cX7_gift 45 = .ok (.invokestatic 68, 3) := by decide +kernel
theorem dX7_gift_48 : decode cX7_gift 48 = .ok (.invokestatic 77, 3) := by decide +kernel
theorem dX7_gift_51 : decode cX7_gift 51 = .ok (.aload_n 0, 1) := by decide +kernel
theorem dX7_gift_52 : decode cX7_gift 52 = .ok (.aload_n 3, 1) := by decide +kernel
theorem dX7_gift_53 : decode cX7_gift 53 = .ok (.getfield 289, 3) := by decide +kernel
theorem dX7_gift_56 : decode cX7_gift 56 = .ok (.aload_n 3, 1) := by decide +kernel
theorem dX7_gift_57 : decode cX7_gift 57 = .ok (.getfield 290, 3) := by decide +kernel
theorem dX7_gift_60 : decode cX7_gift 60 = .ok (.aconst_null, 1) := by decide +kernel
theorem dX7_gift_61 : decode cX7_gift 61 = .ok (.invokevirtual 239, 3) := by decide +kernel
theorem dX7_gift_64 : decode cX7_gift 64 = .ok (.ifnonnull 14, 3) := by decide +kernel
theorem dX7_gift_67 : decode cX7_gift 67 = .ok (.new 50, 3) := by decide +kernel
theorem dX7_gift_70 : decode cX7_gift 70 = .ok (.dup, 1) := by decide +kernel
theorem dX7_gift_71 : decode cX7_gift 71 = .ok (.ldc_w 291, 3) := by decide +kernel
theorem dX7_gift_74 : decode cX7_gift 74 = .ok (.invokespecial 54, 3) := by decide +kernel
theorem dX7_gift_77 : decode cX7_gift 77 = .ok (.athrow, 1) := by decide +kernel
theorem dX7_gift_78 : decode cX7_gift 78 = .ok (.aload_n 3, 1) := by decide +kernel
theorem dX7_gift_79 : decode cX7_gift 79 = .ok (.dup, 1) := by decide +kernel
theorem dX7_gift_80 : decode cX7_gift 80 = .ok (.getfield 293, 3) := by decide +kernel
theorem dX7_gift_83 : decode cX7_gift 83 = .ok (.iload_n 2, 1) := by decide +kernel
theorem dX7_gift_84 : decode cX7_gift 84 = .ok (.iadd, 1) := by decide +kernel
theorem dX7_gift_85 : decode cX7_gift 85 = .ok (.putfield 293, 3) := by decide +kernel
theorem dX7_gift_88 : decode cX7_gift 88 = .ok (.aload_n 3, 1) := by decide +kernel
theorem dX7_gift_89 : decode cX7_gift 89 = .ok (.getfield 293, 3) := by decide +kernel
theorem dX7_gift_92 : decode cX7_gift 92 = .ok (.ireturn, 1) := by decide +kernel
theorem dX7_plan_0 : decode cX7_plan 0 = .ok (.iload_n 1, 1) := by decide +kernel
theorem dX7_plan_1 : decode cX7_plan 1 = .ok (.iconst 0, 1) := by decide +kernel
theorem dX7_plan_2 : decode cX7_plan 2 = .ok (.sipush 10000, 3) := by decide +kernel
theorem dX7_plan_5 : decode cX7_plan 5 = .ok (.invokestatic 68, 3) := by decide +kernel
theorem dX7_plan_8 : decode cX7_plan 8 = .ok (.invokestatic 77, 3) := by decide +kernel
theorem dX7_plan_11 : decode cX7_plan 11 = .ok (.aload_n 0, 1) := by decide +kernel
theorem dX7_plan_12 : decode cX7_plan 12 = .ok (.invokevirtual 296, 3) := by decide +kernel
theorem dX7_plan_15 : decode cX7_plan 15 = .ok (.istore_n 2, 1) := by decide +kernel
theorem dX7_plan_16 : decode cX7_plan 16 = .ok (.iconst 0, 1) := by decide +kernel
theorem dX7_plan_17 : decode cX7_plan 17 = .ok (.istore_n 3, 1) := by decide +kernel
theorem dX7_plan_18 : decode cX7_plan 18 = .ok (.iconst 1, 1) := by decide +kernel
theorem dX7_plan_19 : decode cX7_plan 19 = .ok (.istore 4, 2) := by decide +kernel
theorem dX7_plan_21 : decode cX7_plan 21 = .ok (.iload 4, 2) := by decide +kernel
theorem dX7_plan_23 : decode cX7_plan 23 = .ok (.iload_n 2, 1) := by decide +kernel
theorem dX7_plan_24 : decode cX7_plan 24 = .ok (.if_icmp .ge 91, 3) := by decide +kernel
theorem dX7_plan_27 : decode cX7_plan 27 = .ok (.iload 4, 2) := by decide +kernel
theorem dX7_plan_29 : decode cX7_plan 29 = .ok (.sipush 1024, 3) := by decide +kernel
theorem dX7_plan_32 : decode cX7_plan 32 = .ok (.if_icmp .ge 83, 3) := by decide +kernel
theorem dX7_plan_35 : decode cX7_plan 35 = .ok (.aload_n 0, 1) := by decide +kernel
theorem dX7_plan_36 : decode cX7_plan 36 = .ok (.getfield 39, 3) := by decide +kernel
theorem dX7_plan_39 : decode cX7_plan 39 = .ok (.iload 4, 2) := by decide +kernel
theorem dX7_plan_41 : decode cX7_plan 41 = .ok (.iaload, 1) := by decide +kernel
theorem dX7_plan_42 : decode cX7_plan 42 = .ok (.aload_n 0, 1) := by decide +kernel
theorem dX7_plan_43 : decode cX7_plan 43 = .ok (.getfield 39, 3) := by decide +kernel
theorem dX7_plan_46 : decode cX7_plan 46 = .ok (.iload_n 3, 1) := by decide +kernel
theorem dX7_plan_47 : decode cX7_plan 47 = .ok (.iaload, 1) := by decide +kernel
theorem dX7_plan_48 : decode cX7_plan 48 = .ok (.if_icmp .gt 35, 3) := by decide +kernel
theorem dX7_plan_51 : decode cX7_plan 51 = .ok (.aload_n 0, 1) := by decide +kernel
theorem dX7_plan_52 : decode cX7_plan 52 = .ok (.getfield 39, 3) := by decide +kernel
theorem dX7_plan_55 : decode cX7_plan 55 = .ok (.iload 4, 2) := by decide +kernel
theorem dX7_plan_57 : decode cX7_plan 57 = .ok (.iaload, 1) := by decide +kernel
theorem dX7_plan_58 : decode cX7_plan 58 = .ok (.aload_n 0, 1) := by decide +kernel
theorem dX7_plan_59 : decode cX7_plan 59 = .ok (.getfield 39, 3) := by decide +kernel
theorem dX7_plan_62 : decode cX7_plan 62 = .ok (.iload_n 3, 1) := by decide +kernel
theorem dX7_plan_63 : decode cX7_plan 63 = .ok (.iaload, 1) := by decide +kernel
theorem dX7_plan_64 : decode cX7_plan 64 = .ok (.if_icmp .ne 23, 3) := by decide +kernel
theorem dX7_plan_67 : decode cX7_plan 67 = .ok (.aload_n 0, 1) := by decide +kernel
theorem dX7_plan_68 : decode cX7_plan 68 = .ok (.getfield 35, 3) := by decide +kernel
theorem dX7_plan_71 : decode cX7_plan 71 = .ok (.iload 4, 2) := by decide +kernel
theorem dX7_plan_73 : decode cX7_plan 73 = .ok (.iaload, 1) := by decide +kernel
theorem dX7_plan_74 : decode cX7_plan 74 = .ok (.aload_n 0, 1) := by decide +kernel
theorem dX7_plan_75 : decode cX7_plan 75 = .ok (.getfield 35, 3) := by decide +kernel
theorem dX7_plan_78 : decode cX7_plan 78 = .ok (.iload_n 3, 1) := by decide +kernel
theorem dX7_plan_79 : decode cX7_plan 79 = .ok (.iaload, 1) := by decide +kernel
theorem dX7_plan_80 : decode cX7_plan 80 = .ok (.if_icmp .ge 7, 3) := by decide +kernel
theorem dX7_plan_83 : decode cX7_plan 83 = .ok (.iconst 1, 1) := by decide +kernel
theorem dX7_plan_84 : decode cX7_plan 84 = .ok (.goto 4, 3) := by decide +kernel
theorem dX7_plan_87 : decode cX7_plan 87 = .ok (.iconst 0, 1) := by decide +kernel
theorem dX7_plan_88 : decode cX7_plan 88 = .ok (.istore 5, 2) := by decide +kernel
theorem dX7_plan_90 : decode cX7_plan 90 = .ok (.iload 5, 2) := by decide +kernel
theorem dX7_plan_92 : decode cX7_plan 92 = .ok (.ifCond .eq 17, 3) := by decide +kernel
theorem dX7_plan_95 : decode cX7_plan 95 = .ok (.aload_n 0, 1) := by decide +kernel
theorem dX7_plan_96 : decode cX7_plan 96 = .ok (.getfield 35, 3) := by decide +kernel
theorem dX7_plan_99 : decode cX7_plan 99 = .ok (.iload 4, 2) := by decide +kernel
theorem dX7_plan_101 : decode cX7_plan 101 = .ok (.iaload, 1) := by decide +kernel
theorem dX7_plan_102 : decode cX7_plan 102 = .ok (.iload_n 1, 1) := by decide +kernel
theorem dX7_plan_103 : decode cX7_plan 103 = .ok (.if_icmp .gt 6, 3) := by decide +kernel
theorem dX7_plan_106 : decode cX7_plan 106 = .ok (.iload 4, 2) := by decide +kernel
theorem dX7_plan_108 : decode cX7_plan 108 = .ok (.istore_n 3, 1) := by decide +kernel
theorem dX7_plan_109 : decode cX7_plan 109 = .ok (.iinc 4 1, 3) := by decide +kernel
theorem dX7_plan_112 : decode cX7_plan 112 = .ok (.goto (-91), 3) := by decide +kernel
theorem dX7_plan_115 : decode cX7_plan 115 = .ok (.iload_n 3, 1) := by decide +kernel
theorem dX7_plan_116 : decode cX7_plan 116 = .ok (.ireturn, 1) := by decide +kernel
theorem dX7_estimateFor_0 : decode cX7_estimateFor 0 = .ok (.iconst 0, 1) := by decide +kernel
theorem dX7_estimateFor_1 : decode cX7_estimateFor 1 = .ok (.istore_n 3, 1) := by decide +kernel
theorem dX7_estimateFor_2 : decode cX7_estimateFor 2 = .ok (.iconst 0, 1) := by decide +kernel
theorem dX7_estimateFor_3 : decode cX7_estimateFor 3 = .ok (.istore 4, 2) := by decide +kernel
theorem dX7_estimateFor_5 : decode cX7_estimateFor 5 = .ok (.aload_n 0, 1) := by decide +kernel
theorem dX7_estimateFor_6 : decode cX7_estimateFor 6 = .ok (.getfield 22, 3) := by decide +kernel
theorem dX7_estimateFor_9 : decode cX7_estimateFor 9 = .ok (.invokevirtual 46, 3) := by decide +kernel
theorem dX7_estimateFor_12 : decode cX7_estimateFor 12 = .ok (.iconst 1, 1) := by decide +kernel
theorem dX7_estimateFor_13 : decode cX7_estimateFor 13 = .ok (.isub, 1) := by decide +kernel
theorem dX7_estimateFor_14 : decode cX7_estimateFor 14 = .ok (.istore 5, 2) := by decide +kernel
theorem dX7_estimateFor_16 : decode cX7_estimateFor 16 = .ok (.iload 5, 2) := by decide +kernel
theorem dX7_estimateFor_18 : decode cX7_estimateFor 18 = .ok (.ifCond .lt 58, 3) := by decide +kernel
theorem dX7_estimateFor_21 : decode cX7_estimateFor 21 = .ok (.iload 4, 2) := by decide +kernel
theorem dX7_estimateFor_23 : decode cX7_estimateFor 23 = .ok (.iconst 3, 1) := by decide +kernel
theorem dX7_estimateFor_24 : decode cX7_estimateFor 24 = .ok (.if_icmp .ge 52, 3) := by decide +kernel
theorem dX7_estimateFor_27 : decode cX7_estimateFor 27 = .ok (.aload_n 0, 1) := by decide +kernel
theorem dX7_estimateFor_28 : decode cX7_estimateFor 28 = .ok (.getfield 22, 3) := by decide +kernel
theorem dX7_estimateFor_31 : decode cX7_estimateFor 31 = .ok (.iload 5, 2) := by decide +kernel
theorem dX7_estimateFor_33 : decode cX7_estimateFor 33 = .ok (.invokevirtual 156, 3) := by decide +kernel
theorem dX7_estimateFor_36 : decode cX7_estimateFor 36 = .ok (.checkcast 204, 3) := by decide +kernel
theorem dX7_estimateFor_39 : decode cX7_estimateFor 39 = .ok (.astore 6, 2) := by decide +kernel
theorem dX7_estimateFor_41 : decode cX7_estimateFor 41 = .ok (.aload 6, 2) := by decide +kernel
theorem dX7_estimateFor_43 : decode cX7_estimateFor 43 = .ok (.aload_n 1, 1) := by decide +kernel
theorem dX7_estimateFor_44 : decode cX7_estimateFor 44 = .ok (.iload_n 2, 1) := by decide +kernel
theorem dX7_estimateFor_45 : decode cX7_estimateFor 45 = .ok (.invokevirtual 246, 3) := by decide +kernel
theorem dX7_estimateFor_48 : decode cX7_estimateFor 48 = .ok (.ifCond .eq 22, 3) := by decide +kernel
theorem dX7_estimateFor_51 : decode cX7_estimateFor 51 = .ok (.aload 6, 2) := by decide +kernel
theorem dX7_estimateFor_53 : decode cX7_estimateFor 53 = .ok (.invokestatic 266, 3) := by decide +kernel
theorem dX7_estimateFor_56 : decode cX7_estimateFor 56 = .ok (.ifCond .eq 14, 3) := by decide +kernel
theorem dX7_estimateFor_59 : decode cX7_estimateFor 59 = .ok (.iload_n 3, 1) := by decide +kernel
theorem dX7_estimateFor_60 : decode cX7_estimateFor 60 = .ok (.aload 6, 2) := by decide +kernel
theorem dX7_estimateFor_62 : decode cX7_estimateFor 62 = .ok (.getfield 272, 3) := by decide +kernel
theorem dX7_estimateFor_65 : decode cX7_estimateFor 65 = .ok (.iadd, 1) := by decide +kernel
theorem dX7_estimateFor_66 : decode cX7_estimateFor 66 = .ok (.istore_n 3, 1) := by decide +kernel
theorem dX7_estimateFor_67 : decode cX7_estimateFor 67 = .ok (.iinc 4 1, 3) := by decide +kernel
theorem dX7_estimateFor_70 : decode cX7_estimateFor 70 = .ok (.iinc 5 (-1), 3) := by decide +kernel
theorem dX7_estimateFor_73 : decode cX7_estimateFor 73 = .ok (.goto (-57), 3) := by decide +kernel
theorem dX7_estimateFor_76 : decode cX7_estimateFor 76 = .ok (.iload 4, 2) := by decide +kernel
theorem dX7_estimateFor_78 : decode cX7_estimateFor 78 = .ok (.ifCond .ne 7, 3) := by decide +kernel
theorem dX7_estimateFor_81 : decode cX7_estimateFor 81 = .ok (.iconst (-1), 1) := by decide +kernel
theorem dX7_estimateFor_82 : decode cX7_estimateFor 82 = .ok (.goto 21, 3) := by decide +kernel
theorem dX7_estimateFor_85 : decode cX7_estimateFor 85 = .ok (.bipush 11, 2) := by decide +kernel
theorem dX7_estimateFor_87 : decode cX7_estimateFor 87 = .ok (.iload_n 3, 1) := by decide +kernel
theorem dX7_estimateFor_88 : decode cX7_estimateFor 88 = .ok (.imul, 1) := by decide +kernel
theorem dX7_estimateFor_89 : decode cX7_estimateFor 89 = .ok (.bipush 10, 2) := by decide +kernel
theorem dX7_estimateFor_91 : decode cX7_estimateFor 91 = .ok (.iload 4, 2) := by decide +kernel
theorem dX7_estimateFor_93 : decode cX7_estimateFor 93 = .ok (.imul, 1) := by decide +kernel
theorem dX7_estimateFor_94 : decode cX7_estimateFor 94 = .ok (.iadd, 1) := by decide +kernel
theorem dX7_estimateFor_95 : decode cX7_estimateFor 95 = .ok (.iconst 1, 1) := by decide +kernel
theorem dX7_estimateFor_96 : decode cX7_estimateFor 96 = .ok (.isub, 1) := by decide +kernel
theorem dX7_estimateFor_97 : decode cX7_estimateFor 97 = .ok (.bipush 10, 2) := by decide +kernel
theorem dX7_estimateFor_99 : decode cX7_estimateFor 99 = .ok (.iload 4, 2) := by decide +kernel
theorem dX7_estimateFor_101 : decode cX7_estimateFor 101 = .ok (.imul, 1) := by decide +kernel
theorem dX7_estimateFor_102 : decode cX7_estimateFor 102 = .ok (.idiv, 1) := by decide +kernel
theorem dX7_estimateFor_103 : decode cX7_estimateFor 103 = .ok (.ireturn, 1) := by decide +kernel
theorem dX7_hasOffered_0 : decode cX7_hasOffered 0 = .ok (.iconst 0, 1) := by decide +kernel
theorem dX7_hasOffered_1 : decode cX7_hasOffered 1 = .ok (.istore_n 3, 1) := by decide +kernel
theorem dX7_hasOffered_2 : decode cX7_hasOffered 2 = .ok (.iload_n 3, 1) := by decide +kernel
theorem dX7_hasOffered_3 : decode cX7_hasOffered 3 = .ok (.aload_n 0, 1) := by decide +kernel
theorem dX7_hasOffered_4 : decode cX7_hasOffered 4 = .ok (.getfield 25, 3) := by decide +kernel
theorem dX7_hasOffered_7 : decode cX7_hasOffered 7 = .ok (.invokevirtual 46, 3) := by decide +kernel
theorem dX7_hasOffered_10 : decode cX7_hasOffered 10 = .ok (.if_icmp .ge 42, 3) := by decide +kernel
theorem dX7_hasOffered_13 : decode cX7_hasOffered 13 = .ok (.aload_n 0, 1) := by decide +kernel
theorem dX7_hasOffered_14 : decode cX7_hasOffered 14 = .ok (.getfield 25, 3) := by decide +kernel
theorem dX7_hasOffered_17 : decode cX7_hasOffered 17 = .ok (.iload_n 3, 1) := by decide +kernel
theorem dX7_hasOffered_18 : decode cX7_hasOffered 18 = .ok (.invokevirtual 156, 3) := by decide +kernel
theorem dX7_hasOffered_21 : decode cX7_hasOffered 21 = .ok (.checkcast 282, 3) := by decide +kernel
theorem dX7_hasOffered_24 : decode cX7_hasOffered 24 = .ok (.astore 4, 2) := by decide +kernel
theorem dX7_hasOffered_26 : decode cX7_hasOffered 26 = .ok (.aload 4, 2) := by decide +kernel
theorem dX7_hasOffered_28 : decode cX7_hasOffered 28 = .ok (.getfield 289, 3) := by decide +kernel
theorem dX7_hasOffered_31 : decode cX7_hasOffered 31 = .ok (.aload_n 1, 1) := by decide +kernel
theorem dX7_hasOffered_32 : decode cX7_hasOffered 32 = .ok (.if_acmp .ne 14, 3) := by decide +kernel
theorem dX7_hasOffered_35 : decode cX7_hasOffered 35 = .ok (.aload 4, 2) := by decide +kernel
theorem dX7_hasOffered_37 : decode cX7_hasOffered 37 = .ok (.getfield 290, 3) := by decide +kernel
theorem dX7_hasOffered_40 : decode cX7_hasOffered 40 = .ok (.iload_n 2, 1) := by decide +kernel
theorem dX7_hasOffered_41 : decode cX7_hasOffered 41 = .ok (.if_icmp .ne 5, 3) := by decide +kernel
theorem dX7_hasOffered_44 : decode cX7_hasOffered 44 = .ok (.iconst 1, 1) := by decide +kernel
theorem dX7_hasOffered_45 : decode cX7_hasOffered 45 = .ok (.ireturn, 1) := by decide +kernel
theorem dX7_hasOffered_46 : decode cX7_hasOffered 46 = .ok (.iinc 3 1, 3) := by decide +kernel
theorem dX7_hasOffered_49 : decode cX7_hasOffered 49 = .ok (.goto (-47), 3) := by decide +kernel
theorem dX7_hasOffered_52 : decode cX7_hasOffered 52 = .ok (.iconst 0, 1) := by decide +kernel
theorem dX7_hasOffered_53 : decode cX7_hasOffered 53 = .ok (.ireturn, 1) := by decide +kernel
theorem dX7_fillSets_0 : decode cX7_fillSets 0 = .ok (.iconst 1, 1) := by decide +kernel
theorem dX7_fillSets_1 : decode cX7_fillSets 1 = .ok (.istore_n 1, 1) := by decide +kernel
theorem dX7_fillSets_2 : decode cX7_fillSets 2 = .ok (.iconst 0, 1) := by decide +kernel
theorem dX7_fillSets_3 : decode cX7_fillSets 3 = .ok (.istore_n 2, 1) := by decide +kernel
theorem dX7_fillSets_4 : decode cX7_fillSets 4 = .ok (.iload_n 2, 1) := by decide +kernel
theorem dX7_fillSets_5 : decode cX7_fillSets 5 = .ok (.aload_n 0, 1) := by decide +kernel
theorem dX7_fillSets_6 : decode cX7_fillSets 6 = .ok (.getfield 25, 3) := by decide +kernel
theorem dX7_fillSets_9 : decode cX7_fillSets 9 = .ok (.invokevirtual 46, 3) := by decide +kernel
theorem dX7_fillSets_12 : decode cX7_fillSets 12 = .ok (.if_icmp .ge 96, 3) := by decide +kernel
theorem dX7_fillSets_15 : decode cX7_fillSets 15 = .ok (.iconst 2, 1) := by decide +kernel
theorem dX7_fillSets_16 : decode cX7_fillSets 16 = .ok (.iload_n 1, 1) := by decide +kernel
theorem dX7_fillSets_17 : decode cX7_fillSets 17 = .ok (.imul, 1) := by decide +kernel
theorem dX7_fillSets_18 : decode cX7_fillSets 18 = .ok (.sipush 1024, 3) := by decide +kernel
theorem dX7_fillSets_21 : decode cX7_fillSets 21 = .ok (.if_icmp .gt 87, 3) := by decide +kernel
theorem dX7_fillSets_24 : decode cX7_fillSets 24 = .ok (.aload_n 0, 1) := by decide +kernel
theorem dX7_fillSets_25 : decode cX7_fillSets 25 = .ok (.getfield 25, 3) := by decide +kernel
theorem dX7_fillSets_28 : decode cX7_fillSets 28 = .ok (.iload_n 2, 1) := by decide +kernel
theorem dX7_fillSets_29 : decode cX7_fillSets 29 = .ok (.invokevirtual 156, 3) := by decide +kernel
theorem dX7_fillSets_32 : decode cX7_fillSets 32 = .ok (.checkcast 282, 3) := by decide +kernel
theorem dX7_fillSets_35 : decode cX7_fillSets 35 = .ok (.astore_n 3, 1) := by decide +kernel
theorem dX7_fillSets_36 : decode cX7_fillSets 36 = .ok (.aload_n 0, 1) := by decide +kernel
theorem dX7_fillSets_37 : decode cX7_fillSets 37 = .ok (.aload_n 3, 1) := by decide +kernel
theorem dX7_fillSets_38 : decode cX7_fillSets 38 = .ok (.invokevirtual 299, 3) := by decide +kernel
theorem dX7_fillSets_41 : decode cX7_fillSets 41 = .ok (.istore 4, 2) := by decide +kernel
theorem dX7_fillSets_43 : decode cX7_fillSets 43 = .ok (.iconst 0, 1) := by decide +kernel
theorem dX7_fillSets_44 : decode cX7_fillSets 44 = .ok (.istore 5, 2) := by decide +kernel
theorem dX7_fillSets_46 : decode cX7_fillSets 46 = .ok (.iload 5, 2) := by decide +kernel
theorem dX7_fillSets_48 : decode cX7_fillSets 48 = .ok (.iload_n 1, 1) := by decide +kernel
theorem dX7_fillSets_49 : decode cX7_fillSets 49 = .ok (.if_icmp .ge 49, 3) := by decide +kernel
theorem dX7_fillSets_52 : decode cX7_fillSets 52 = .ok (.aload_n 0, 1) := by decide +kernel
theorem dX7_fillSets_53 : decode cX7_fillSets 53 = .ok (.getfield 35, 3) := by decide +kernel
theorem dX7_fillSets_56 : decode cX7_fillSets 56 = .ok (.iload_n 1, 1) := by decide +kernel
theorem dX7_fillSets_57 : decode cX7_fillSets 57 = .ok (.iload 5, 2) := by decide +kernel
theorem dX7_fillSets_59 : decode cX7_fillSets 59 = .ok (.iadd, 1) := by decide +kernel
theorem dX7_fillSets_60 : decode cX7_fillSets 60 = .ok (.aload_n 0, 1) := by decide +kernel
theorem dX7_fillSets_61 : decode cX7_fillSets 61 = .ok (.getfield 35, 3) := by decide +kernel
theorem dX7_fillSets_64 : decode cX7_fillSets 64 = .ok (.iload 5, 2) := by decide +kernel
theorem dX7_fillSets_66 : decode cX7_fillSets 66 = .ok (.iaload, 1) := by decide +kernel
theorem dX7_fillSets_67 : decode cX7_fillSets 67 = .ok (.iload 4, 2) := by decide +kernel
theorem dX7_fillSets_69 : decode cX7_fillSets 69 = .ok (.iadd, 1) := by decide +kernel
theorem dX7_fillSets_70 : decode cX7_fillSets 70 = .ok (.iastore, 1) := by decide +kernel
theorem dX7_fillSets_71 : decode cX7_fillSets 71 = .ok (.aload_n 0, 1) := by decide +kernel
theorem dX7_fillSets_72 : decode cX7_fillSets 72 = .ok (.getfield 39, 3) := by decide +kernel
theorem dX7_fillSets_75 : decode cX7_fillSets 75 = .ok (.iload_n 1, 1) := by decide +kernel
theorem dX7_fillSets_76 : decode cX7_fillSets 76 = .ok (.iload 5, 2) := by decide +kernel
theorem dX7_fillSets_78 : decode cX7_fillSets 78 = .ok (.iadd, 1) := by decide +kernel
theorem dX7_fillSets_79 : decode cX7_fillSets 79 = .ok (.aload_n 0, 1) := by decide +kernel
theorem dX7_fillSets_80 : decode cX7_fillSets 80 = .ok (.getfield 39, 3) := by decide +kernel
theorem dX7_fillSets_83 : decode cX7_fillSets 83 = .ok (.iload 5, 2) := by decide +kernel
theorem dX7_fillSets_85 : decode cX7_fillSets 85 = .ok (.iaload, 1) := by decide +kernel
theorem dX7_fillSets_86 : decode cX7_fillSets 86 = .ok (.aload_n 3, 1) := by decide +kernel
theorem dX7_fillSets_87 : decode cX7_fillSets 87 = .ok (.getfield 293, 3) := by decide +kernel
theorem dX7_fillSets_90 : decode cX7_fillSets 90 = .ok (.iadd, 1) := by decide +kernel
theorem dX7_fillSets_91 : decode cX7_fillSets 91 = .ok (.iastore, 1) := by decide +kernel
theorem dX7_fillSets_92 : decode cX7_fillSets 92 = .ok (.iinc 5 1, 3) := by decide +kernel
theorem dX7_fillSets_95 : decode cX7_fillSets 95 = .ok (.goto (-49), 3) := by decide +kernel
theorem dX7_fillSets_98 : decode cX7_fillSets 98 = .ok (.iload_n 1, 1) := by decide +kernel
theorem dX7_fillSets_99 : decode cX7_fillSets 99 = .ok (.iconst 2, 1) := by decide +kernel
theorem dX7_fillSets_100 : decode cX7_fillSets 100 = .ok (.imul, 1) := by decide +kernel
theorem dX7_fillSets_101 : decode cX7_fillSets 101 = .ok (.istore_n 1, 1) := by decide +kernel
theorem dX7_fillSets_102 : decode cX7_fillSets 102 = .ok (.iinc 2 1, 3) := by decide +kernel
theorem dX7_fillSets_105 : decode cX7_fillSets 105 = .ok (.goto (-101), 3) := by decide +kernel
theorem dX7_fillSets_108 : decode cX7_fillSets 108 = .ok (.iload_n 1, 1) := by decide +kernel
theorem dX7_fillSets_109 : decode cX7_fillSets 109 = .ok (.ireturn, 1) := by decide +kernel
theorem dX7_costOf_0 : decode cX7_costOf 0 = .ok (.aload_n 0, 1) := by decide +kernel
theorem dX7_costOf_1 : decode cX7_costOf 1 = .ok (.aload_n 1, 1) := by decide +kernel
theorem dX7_costOf_2 : decode cX7_costOf 2 = .ok (.getfield 289, 3) := by decide +kernel
theorem dX7_costOf_5 : decode cX7_costOf 5 = .ok (.aload_n 1, 1) := by decide +kernel
theorem dX7_costOf_6 : decode cX7_costOf 6 = .ok (.getfield 290, 3) := by decide +kernel
theorem dX7_costOf_9 : decode cX7_costOf 9 = .ok (.invokevirtual 273, 3) := by decide +kernel
theorem dX7_costOf_12 : decode cX7_costOf 12 = .ok (.istore_n 2, 1) := by decide +kernel
theorem dX7_costOf_13 : decode cX7_costOf 13 = .ok (.iload_n 2, 1) := by decide +kernel
theorem dX7_costOf_14 : decode cX7_costOf 14 = .ok (.iconst (-1), 1) := by decide +kernel
theorem dX7_costOf_15 : decode cX7_costOf 15 = .ok (.if_icmp .ne 9, 3) := by decide +kernel
theorem dX7_costOf_18 : decode cX7_costOf 18 = .ok (.sipush 10001, 3) := by decide +kernel
theorem dX7_costOf_21 : decode cX7_costOf 21 = .ok (.goto 4, 3) := by decide +kernel
theorem dX7_costOf_24 : decode cX7_costOf 24 = .ok (.iload_n 2, 1) := by decide +kernel
theorem dX7_costOf_25 : decode cX7_costOf 25 = .ok (.ireturn, 1) := by decide +kernel

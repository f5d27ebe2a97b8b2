theorem dJx4a65c_fastRemove_b59b0_2 : decode cJx4a65c_fastRemove_b59b0 2 = .ok (.getfield 63, 3) := by decide +kernel
theorem dJx4a65c_fastRemove_b59b0_5 : decode cJx4a65c_fastRemove_b59b0 5 = .ok (.iconst 1, 1) := by decide +kernel
theorem dJx4a65c_fastRemove_b59b0_6 : decode cJx4a65c_fastRemove_b59b0 6 = .ok (.iadd, 1) := by decide +kernel
theorem dJx4a65c_fastRemove_b59b0_7 : decode cJx4a65c_fastRemove_b59b0 7 = .ok (.putfield 63, 3) := by decide +kernel
theorem dJx4a65c_fastRemove_b59b0_10 : decode cJx4a65c_fastRemove_b59b0 10 = .ok (.aload_n 0, 1) := by decide +kernel
theorem dJx4a65c_fastRemove_b59b0_11 : decode cJx4a65c_fastRemove_b59b0 11 = .ok (.getfield 48, 3) := by decide +kernel
theorem dJx4a65c_fastRemove_b59b0_14 : decode cJx4a65c_fastRemove_b59b0 14 = .ok (.iconst 1, 1) := by decide +kernel
theorem dJx4a65c_fastRemove_b59b0_15 : decode cJx4a65c_fastRemove_b59b0 15 = .ok (.isub, 1) := by decide +kernel
theorem dJx4a65c_fastRemove_b59b0_16 : decode cJx4a65c_fastRemove_b59b0 16 = .ok (.dup, 1) := by decide +kernel
theorem dJx4a65c_fastRemove_b59b0_17 : decode cJx4a65c_fastRemove_b59b0 17 = .ok (.istore_n 3, 1) := by decide +kernel
theorem dJx4a65c_fastRemove_b59b0_18 : decode cJx4a65c_fastRemove_b59b0 18 = .ok (.iload_n 2, 1) := by decide +kernel
theorem dJx4a65c_fastRemove_b59b0_19 : decode cJx4a65c_fastRemove_b59b0 19 = .ok (.if_icmp .le 15, 3) := by decide +kernel
theorem dJx4a65c_fastRemove_b59b0_22 : decode cJx4a65c_fastRemove_b59b0 22 = .ok (.aload_n 1, 1) := by decide +kernel
theorem dJx4a65c_fastRemove_b59b0_23 : decode cJx4a65c_fastRemove_b59b0 23 = .ok (.iload_n 2, 1) := by decide +kernel
theorem dJx4a65c_fastRemove_b59b0_24 : decode cJx4a65c_fastRemove_b59b0 24 = .ok (.iconst 1, 1) := by decide +kernel
theorem dJx4a65c_fastRemove_b59b0_25 : decode cJx4a65c_fastRemove_b59b0 25 = .ok (.iadd, 1) := by decide +kernel
theorem dJx4a65c_fastRemove_b59b0_26 : decode cJx4a65c_fastRemove_b59b0 26 = .ok (.aload_n 1, 1) := by decide +kernel
theorem dJx4a65c_fastRemove_b59b0_27 : decode cJx4a65c_fastRemove_b59b0 27 = .ok (.iload_n 2, 1) := by decide +kernel
theorem dJx4a65c_fastRemove_b59b0_28 : decode cJx4a65c_fastRemove_b59b0 28 = .ok (.iload_n 3, 1) := by decide +kernel
theorem dJx4a65c_fastRemove_b59b0_29 : decode cJx4a65c_fastRemove_b59b0 29 = .ok (.iload_n 2, 1) := by decide +kernel
theorem dJx4a65c_fastRemove_b59b0_30 : decode cJx4a65c_fastRemove_b59b0 30 = .ok (.isub, 1) := by decide +kernel
theorem dJx4a65c_fastRemove_b59b0_31 : decode cJx4a65c_fastRemove_b59b0 31 = .ok (.invokestatic 112, 3) := by decide +kernel
theorem dJx4a65c_fastRemove_b59b0_34 : decode cJx4a65c_fastRemove_b59b0 34 = .ok (.aload_n 1, 1) := by decide +kernel
theorem dJx4a65c_fastRemove_b59b0_35 : decode cJx4a65c_fastRemove_b59b0 35 = .ok (.aload_n 0, 1) := by decide +kernel
theorem dJx4a65c_fastRemove_b59b0_36 : decode cJx4a65c_fastRemove_b59b0 36 = .ok (.iload_n 3, 1) := by decide +kernel
theorem dJx4a65c_fastRemove_b59b0_37 : decode cJx4a65c_fastRemove_b59b0 37 = .ok (.dup_x1, 1) := by decide +kernel
theorem dJx4a65c_fastRemove_b59b0_38 : decode cJx4a65c_fastRemove_b59b0 38 = .ok (.putfield 48, 3) := by decide +kernel
theorem dJx4a65c_fastRemove_b59b0_41 : decode cJx4a65c_fastRemove_b59b0 41 = .ok (.aconst_null, 1) := by decide +kernel
theorem dJx4a65c_fastRemove_b59b0_42 : decode cJx4a65c_fastRemove_b59b0 42 = .ok (.aastore, 1) := by decide +kernel
theorem dJx4a65c_fastRemove_b59b0_43 : decode cJx4a65c_fastRemove_b59b0 43 = .ok (.return_, 1) := by decide +kernel
theorem dJx4a65c_clear_da8c8_0 : decode cJx4a65c_clear_da8c8 0 = .ok (.aload_n 0, 1) := by decide +kernel
theorem dJx4a65c_clear_da8c8_1 : decode cJx4a65c_clear_da8c8 1 = .ok (.dup, 1) := by decide +kernel
theorem dJx4a65c_clear_da8c8_2 : decode cJx4a65c_clear_da8c8 2 = .ok (.getfield 63, 3) := by decide +kernel
theorem dJx4a65c_clear_da8c8_5 : decode cJx4a65c_clear_da8c8 5 = .ok (.iconst 1, 1) := by decide +kernel
theorem dJx4a65c_clear_da8c8_6 : decode cJx4a65c_clear_da8c8 6 = .ok (.iadd, 1) := by decide +kernel
theorem dJx4a65c_clear_da8c8_7 : decode cJx4a65c_clear_da8c8 7 = .ok (.putfield 63, 3) := by decide +kernel
theorem dJx4a65c_clear_da8c8_10 : decode cJx4a65c_clear_da8c8 10 = .ok (.aload_n 0, 1) := by decide +kernel
theorem dJx4a65c_clear_da8c8_11 : decode cJx4a65c_clear_da8c8 11 = .ok (.getfield 9, 3) := by decide +kernel
theorem dJx4a65c_clear_da8c8_14 : decode cJx4a65c_clear_da8c8 14 = .ok (.astore_n 1, 1) := by decide +kernel
theorem dJx4a65c_clear_da8c8_15 : decode cJx4a65c_clear_da8c8 15 = .ok (.aload_n 0, 1) := by decide +kernel
theorem dJx4a65c_clear_da8c8_16 : decode cJx4a65c_clear_da8c8 16 = .ok (.getfield 48, 3) := by decide +kernel
theorem dJx4a65c_clear_da8c8_19 : decode cJx4a65c_clear_da8c8 19 = .ok (.istore_n 2, 1) := by decide +kernel
theorem dJx4a65c_clear_da8c8_20 : decode cJx4a65c_clear_da8c8 20 = .ok (.aload_n 0, 1) := by decide +kernel
theorem dJx4a65c_clear_da8c8_21 : decode cJx4a65c_clear_da8c8 21 = .ok (.iconst 0, 1) := by decide +kernel
theorem dJx4a65c_clear_da8c8_22 : decode cJx4a65c_clear_da8c8 22 = .ok (.dup_x1, 1) := by decide +kernel
theorem dJx4a65c_clear_da8c8_23 : decode cJx4a65c_clear_da8c8 23 = .ok (.putfield 48, 3) := by decide +kernel
theorem dJx4a65c_clear_da8c8_26 : decode cJx4a65c_clear_da8c8 26 = .ok (.istore_n 3, 1) := by decide +kernel
theorem dJx4a65c_clear_da8c8_27 : decode cJx4a65c_clear_da8c8 27 = .ok (.iload_n 3, 1) := by decide +kernel
theorem dJx4a65c_clear_da8c8_28 : decode cJx4a65c_clear_da8c8 28 = .ok (.iload_n 2, 1) := by decide +kernel
theorem dJx4a65c_clear_da8c8_29 : decode cJx4a65c_clear_da8c8 29 = .ok (.if_icmp .ge 13, 3) := by decide +kernel
theorem dJx4a65c_clear_da8c8_32 : decode cJx4a65c_clear_da8c8 32 = .ok (.aload_n 1, 1) := by decide +kernel
theorem dJx4a65c_clear_da8c8_33 : decode cJx4a65c_clear_da8c8 33 = .ok (.iload_n 3, 1) := by decide +kernel
theorem dJx4a65c_clear_da8c8_34 : decode cJx4a65c_clear_da8c8 34 = .ok (.aconst_null, 1) := by decide +kernel
theorem dJx4a65c_clear_da8c8_35 : decode cJx4a65c_clear_da8c8 35 = .ok (.aastore, 1) := by decide +kernel
theorem dJx4a65c_clear_da8c8_36 : decode cJx4a65c_clear_da8c8 36 = .ok (.iinc 3 1, 3) := by decide +kernel
theorem dJx4a65c_clear_da8c8_39 : decode cJx4a65c_clear_da8c8 39 = .ok (.goto (-12), 3) := by decide +kernel
theorem dJx4a65c_clear_da8c8_42 : decode cJx4a65c_clear_da8c8 42 = .ok (.return_, 1) := by decide +kernel
theorem dJ7_fill_53178_0 : decode cJ7_fill_53178 0 = .ok (.iconst 0, 1) := by decide +kernel
theorem dJ7_fill_53178_1 : decode cJ7_fill_53178 1 = .ok (.istore_n 2, 1) := by decide +kernel
theorem dJ7_fill_53178_2 : decode cJ7_fill_53178 2 = .ok (.aload_n 0, 1) := by decide +kernel
theorem dJ7_fill_53178_3 : decode cJ7_fill_53178 3 = .ok (.arraylength, 1) := by decide +kernel
theorem dJ7_fill_53178_4 : decode cJ7_fill_53178 4 = .ok (.istore_n 3, 1) := by decide +kernel
theorem dJ7_fill_53178_5 : decode cJ7_fill_53178 5 = .ok (.iload_n 2, 1) := by decide +kernel
theorem dJ7_fill_53178_6 : decode cJ7_fill_53178 6 = .ok (.iload_n 3, 1) := by decide +kernel
theorem dJ7_fill_53178_7 : decode cJ7_fill_53178 7 = .ok (.if_icmp .ge 13, 3) := by decide +kernel
theorem dJ7_fill_53178_10 : decode cJ7_fill_53178 10 = .ok (.aload_n 0, 1) := by decide +kernel
theorem dJ7_fill_53178_11 : decode cJ7_fill_53178 11 = .ok (.iload_n 2, 1) := by decide +kernel
theorem dJ7_fill_53178_12 : decode cJ7_fill_53178 12 = .ok (.iload_n 1, 1) := by decide +kernel
theorem dJ7_fill_53178_13 : decode cJ7_fill_53178 13 = .ok (.iastore, 1) := by decide +kernel
theorem dJ7_fill_53178_14 : decode cJ7_fill_53178 14 = .ok (.iinc 2 1, 3) := by decide +kernel
theorem dJ7_fill_53178_17 : decode cJ7_fill_53178 17 = .ok (.goto (-12), 3) := by decide +kernel
theorem dJ7_fill_53178_20 : decode cJ7_fill_53178 20 = .ok (.return_, 1) := by decide +kernel
theorem dJ7_copyOf_1904c_0 : decode cJ7_copyOf_1904c 0 = .ok (.aload_n 0, 1) := by decide +kernel
theorem dJ7_copyOf_1904c_1 : decode cJ7_copyOf_1904c 1 = .ok (.iload_n 1, 1) := by decide +kernel
theorem dJ7_copyOf_1904c_2 : decode cJ7_copyOf_1904c 2 = .ok (.aload_n 0, 1) := by decide +kernel
theorem dJ7_copyOf_1904c_3 : decode cJ7_copyOf_1904c 3 = .ok (.invokevirtual 86, 3) := by decide +kernel
theorem dJ7_copyOf_1904c_6 : decode cJ7_copyOf_1904c 6 = .ok (.invokestatic 300, 3) := by decide +kernel
theorem dJ7_copyOf_1904c_9 : decode cJ7_copyOf_1904c 9 = .ok (.areturn, 1) := by decide +kernel
theorem dJ7_copyOf_6403c_0 : decode cJ7_copyOf_6403c 0 = .ok (.aload_n 2, 1) := by decide +kernel
theorem dJ7_copyOf_6403c_1 : decode cJ7_copyOf_6403c 1 = .ok (.ldc 110, 2) := by decide +kernel
theorem dJ7_copyOf_6403c_3 : decode cJ7_copyOf_6403c 3 = .ok (.if_acmp .ne 10, 3) := by decide +kernel
theorem dJ7_copyOf_6403c_6 : decode cJ7_copyOf_6403c 6 = .ok (.iload_n 1, 1) := by decide +kernel
theorem dJ7_copyOf_6403c_7 : decode cJ7_copyOf_6403c 7 = .ok (.anewarray 2, 3) := by decide +kernel
theorem dJ7_copyOf_6403c_10 : decode cJ7_copyOf_6403c 10 = .ok (.goto 14, 3) := by decide +kernel
theorem dJ7_copyOf_6403c_13 : decode cJ7_copyOf_6403c 13 = .ok (.aload_n 2, 1) := by decide +kernel
theorem dJ7_copyOf_6403c_14 : decode cJ7_copyOf_6403c 14 = .ok (.invokevirtual 90, 3) := by decide +kernel
theorem dJ7_copyOf_6403c_17 : decode cJ7_copyOf_6403c 17 = .ok (.iload_n 1, 1) := by decide +kernel
theorem dJ7_copyOf_6403c_18 : decode cJ7_copyOf_6403c 18 = .ok (.invokestatic 95, 3) := by decide +kernel
theorem dJ7_copyOf_6403c_21 : decode cJ7_copyOf_6403c 21 = .ok (.checkcast 110, 3) := by decide +kernel
theorem dJ7_copyOf_6403c_24 : decode cJ7_copyOf_6403c 24 = .ok (.astore_n 3, 1) := by decide +kernel
theorem dJ7_copyOf_6403c_25 : decode cJ7_copyOf_6403c 25 = .ok (.aload_n 0, 1) := by decide +kernel
theorem dJ7_copyOf_6403c_26 : decode cJ7_copyOf_6403c 26 = .ok (.iconst 0, 1) := by decide +kernel
theorem dJ7_copyOf_6403c_27 : decode cJ7_copyOf_6403c 27 = .ok (.aload_n 3, 1) := by decide +kernel
theorem dJ7_copyOf_6403c_28 : decode cJ7_copyOf_6403c 28 = .ok (.iconst 0, 1) := by decide +kernel
theorem dJ7_copyOf_6403c_29 : decode cJ7_copyOf_6403c 29 = .ok (.aload_n 0, 1) := by decide +kernel
theorem dJ7_copyOf_6403c_30 : decode cJ7_copyOf_6403c 30 = .ok (.arraylength, 1) := by decide +kernel
theorem dJ7_copyOf_6403c_31 : decode cJ7_copyOf_6403c 31 = .ok (.iload_n 1, 1) := by decide +kernel
theorem dJ7_copyOf_6403c_32 : decode cJ7_copyOf_6403c 32 = .ok (.invokestatic 304, 3) := by decide +kernel
theorem dJ7_copyOf_6403c_35 : decode cJ7_copyOf_6403c 35 = .ok (.invokestatic 150, 3) := by decide +kernel
theorem dJ7_copyOf_6403c_38 : decode cJ7_copyOf_6403c 38 = .ok (.aload_n 3, 1) := by decide +kernel
theorem dJ7_copyOf_6403c_39 : decode cJ7_copyOf_6403c 39 = .ok (.areturn, 1) := by decide +kernel
theorem dJ15_checkIndex_7cf53_0 : decode cJ15_checkIndex_7cf53 0 = .ok (.iload_n 0, 1) := by decide +kernel
theorem dJ15_checkIndex_7cf53_1 : decode cJ15_checkIndex_7cf53 1 = .ok (.iload_n 1, 1) := by decide +kernel
theorem dJ15_checkIndex_7cf53_2 : decode cJ15_checkIndex_7cf53 2 = .ok (.aconst_null, 1) := by decide +kernel
theorem dJ15_checkIndex_7cf53_3 : decode cJ15_checkIndex_7cf53 3 = .ok (.invokestatic 105, 3) := by decide +kernel
theorem dJ15_checkIndex_7cf53_6 : decode cJ15_checkIndex_7cf53 6 = .ok (.ireturn, 1) := by decide +kernel
theorem dJ8_newLength_cabcc_0 : decode cJ8_newLength_cabcc 0 = .ok (.iload_n 0, 1) := by decide +kernel
theorem dJ8_newLength_cabcc_1 : decode cJ8_newLength_cabcc 1 = .ok (.iload_n 1, 1) := by decide +kernel
theorem dJ8_newLength_cabcc_2 : decode cJ8_newLength_cabcc 2 = .ok (.iload_n 2, 1) := by decide +kernel
theorem dJ8_newLength_cabcc_3 : decode cJ8_newLength_cabcc 3 = .ok (.invokestatic 194, 3) := by decide +kernel
theorem dJ8_newLength_cabcc_6 : decode cJ8_newLength_cabcc 6 = .ok (.iadd, 1) := by decide +kernel
theorem dJ8_newLength_cabcc_7 : decode cJ8_newLength_cabcc 7 = .ok (.istore_n 3, 1) := by decide +kernel
theorem dJ8_newLength_cabcc_8 : decode cJ8_newLength_cabcc 8 = .ok (.iconst 0, 1) := by decide +kernel
theorem dJ8_newLength_cabcc_9 : decode cJ8_newLength_cabcc 9 = .ok (.iload_n 3, 1) := by decide +kernel
theorem dJ8_newLength_cabcc_10 : decode cJ8_newLength_cabcc 10 = .ok (.if_icmp .ge 11, 3) := by decide +kernel
theorem dJ8_newLength_cabcc_13 : decode cJ8_newLength_cabcc 13 = .ok (.iload_n 3, 1) := by decide +kernel
theorem dJ8_newLength_cabcc_14 : decode cJ8_newLength_cabcc 14 = .ok (.ldc 200, 2) := by decide +kernel
theorem dJ8_newLength_cabcc_16 : decode cJ8_newLength_cabcc 16 = .ok (.if_icmp .gt 5, 3) := by decide +kernel
theorem dJ8_newLength_cabcc_19 : decode cJ8_newLength_cabcc 19 = .ok (.iload_n 3, 1) := by decide +kernel
theorem dJ8_newLength_cabcc_20 : decode cJ8_newLength_cabcc 20 = .ok (.ireturn, 1) := by decide +kernel
theorem dJ8_newLength_cabcc_21 : decode cJ8_newLength_cabcc 21 = .ok (.iload_n 0, 1) := by decide +kernel
theorem dJ8_newLength_cabcc_22 : decode cJ8_newLength_cabcc 22 = .ok (.iload_n 1, 1) := by decide +kernel
theorem dJ8_newLength_cabcc_23 : decode cJ8_newLength_cabcc 23 = .ok (.invokestatic 201, 3) := by decide +kernel
theorem dJ8_newLength_cabcc_26 : decode cJ8_newLength_cabcc 26 = .ok (.ireturn, 1) := by decide +kernel
theorem dJ8_hugeLength_7cf53_0 : decode cJ8_hugeLength_7cf53 0 = .ok (.iload_n 0, 1) := by decide +kernel
theorem dJ8_hugeLength_7cf53_1 : decode cJ8_hugeLength_7cf53 1 = .ok (.iload_n 1, 1) := by decide +kernel
theorem dJ8_hugeLength_7cf53_2 : decode cJ8_hugeLength_7cf53 2 = .ok (.iadd, 1) := by decide +kernel
theorem dJ8_hugeLength_7cf53_3 : decode cJ8_hugeLength_7cf53 3 = .ok (.istore_n 2, 1) := by decide +kernel
theorem dJ8_hugeLength_7cf53_4 : decode cJ8_hugeLength_7cf53 4 = .ok (.iload_n 2, 1) := by decide +kernel
theorem dJ8_hugeLength_7cf53_5 : decode cJ8_hugeLength_7cf53 5 = .ok (.ifCond .ge 44, 3) := by decide +kernel
theorem dJ8_hugeLength_7cf53_8 : decode cJ8_hugeLength_7cf53 8 = .ok (.new 204, 3) := by decide +kernel
theorem dJ8_hugeLength_7cf53_11 : decode cJ8_hugeLength_7cf53 11 = .ok (.dup, 1) := by decide +kernel
theorem dJ8_hugeLength_7cf53_12 : decode cJ8_hugeLength_7cf53 12 = .ok (.new 89, 3) := by decide +kernel
theorem dJ8_hugeLength_7cf53_15 : decode cJ8_hugeLength_7cf53 15 = .ok (.dup, 1) := by decide +kernel
theorem dJ8_hugeLength_7cf53_16 : decode cJ8_hugeLength_7cf53 16 = .ok (.invokespecial 91, 3) := by decide +kernel
theorem dJ8_hugeLength_7cf53_19 : decode cJ8_hugeLength_7cf53 19 = .ok (.ldc 206, 2) := by decide +kernel
theorem dJ8_hugeLength_7cf53_21 : decode cJ8_hugeLength_7cf53 21 = .ok (.invokevirtual 94, 3) := by decide +kernel
theorem dJ8_hugeLength_7cf53_24 : decode cJ8_hugeLength_7cf53 24 = .ok (.iload_n 0, 1) := by decide +kernel
theorem dJ8_hugeLength_7cf53_25 : decode cJ8_hugeLength_7cf53 25 = .ok (.invokevirtual 98, 3) := by decide +kernel
theorem dJ8_hugeLength_7cf53_28 : decode cJ8_hugeLength_7cf53 28 = .ok (.ldc 208, 2) := by decide +kernel
theorem dJ8_hugeLength_7cf53_30 : decode cJ8_hugeLength_7cf53 30 = .ok (.invokevirtual 94, 3) := by decide +kernel
theorem dJ8_hugeLength_7cf53_33 : decode cJ8_hugeLength_7cf53 33 = .ok (.iload_n 1, 1) := by decide +kernel
theorem dJ8_hugeLength_7cf53_34 : decode cJ8_hugeLength_7cf53 34 = .ok (.invokevirtual 98, 3) := by decide +kernel
theorem dJ8_hugeLength_7cf53_37 : decode cJ8_hugeLength_7cf53 37 = .ok (.ldc 210, 2) := by decide +kernel
theorem dJ8_hugeLength_7cf53_39 : decode cJ8_hugeLength_7cf53 39 = .ok (.invokevirtual 94, 3) := by decide +kernel
theorem dJ8_hugeLength_7cf53_42 : decode cJ8_hugeLength_7cf53 42 = .ok (.invokevirtual 101, 3) := by decide +kernel
theorem dJ8_hugeLength_7cf53_45 : decode cJ8_hugeLength_7cf53 45 = .ok (.invokespecial 212, 3) := by decide +kernel
theorem dJ8_hugeLength_7cf53_48 : decode cJ8_hugeLength_7cf53 48 = .ok (.athrow, 1) := by decide +kernel
theorem dJ8_hugeLength_7cf53_49 : decode cJ8_hugeLength_7cf53 49 = .ok (.iload_n 2, 1) := by decide +kernel
theorem dJ8_hugeLength_7cf53_50 : decode cJ8_hugeLength_7cf53 50 = .ok (.ldc 200, 2) := by decide +kernel
theorem dJ8_hugeLength_7cf53_52 : decode cJ8_hugeLength_7cf53 52 = .ok (.if_icmp .gt 6, 3) := by decide +kernel
theorem dJ8_hugeLength_7cf53_55 : decode cJ8_hugeLength_7cf53 55 = .ok (.ldc 200, 2) := by decide +kernel
theorem dJ8_hugeLength_7cf53_57 : decode cJ8_hugeLength_7cf53 57 = .ok (.ireturn, 1) := by decide +kernel
theorem dJ8_hugeLength_7cf53_58 : decode cJ8_hugeLength_7cf53 58 = .ok (.iload_n 2, 1) := by decide +kernel
theorem dJ8_hugeLength_7cf53_59 : decode cJ8_hugeLength_7cf53 59 = .ok (.ireturn, 1) := by decide +kernel
theorem dJ3_checkIndex_8e157_0 : decode cJ3_checkIndex_8e157 0 = .ok (.iload_n 0, 1) := by decide +kernel
theorem dJ3_checkIndex_8e157_1 : decode cJ3_checkIndex_8e157 1 = .ok (.ifCond .lt 8, 3) := by decide +kernel
theorem dJ3_checkIndex_8e157_4 : decode cJ3_checkIndex_8e157 4 = .ok (.iload_n 0, 1) := by decide +kernel
theorem dJ3_checkIndex_8e157_5 : decode cJ3_checkIndex_8e157 5 = .ok (.iload_n 1, 1) := by decide +kernel
theorem dJ3_checkIndex_8e157_6 : decode cJ3_checkIndex_8e157 6 = .ok (.if_icmp .lt 10, 3) := by decide +kernel
theorem dJ3_checkIndex_8e157_9 : decode cJ3_checkIndex_8e157 9 = .ok (.aload_n 2, 1) := by decide +kernel
theorem dJ3_checkIndex_8e157_10 : decode cJ3_checkIndex_8e157 10 = .ok (.iload_n 0, 1) := by decide +kernel
theorem dJ3_checkIndex_8e157_11 : decode cJ3_checkIndex_8e157 11 = .ok (.iload_n 1, 1) := by decide +kernel
theorem dJ3_checkIndex_8e157_12 : decode cJ3_checkIndex_8e157 12 = .ok (.invokestatic 95, 3) := by decide +kernel
theorem dJ3_checkIndex_8e157_15 : decode cJ3_checkIndex_8e157 15 = .ok (.athrow, 1) := by decide +kernel
theorem dJ3_checkIndex_8e157_16 : decode cJ3_checkIndex_8e157 16 = .ok (.iload_n 0, 1) := by decide +kernel
theorem dJ3_checkIndex_8e157_17 : decode cJ3_checkIndex_8e157 17 = .ok (.ireturn, 1) := by decide +kernel
theorem dL_cell_0 : decode cL_cell 0 = .ok (.iload_n 1, 1) := by decide +kernel
theorem dL_cell_1 : decode cL_cell 1 = .ok (.aload_n 0, 1) := by decide +kernel
theorem dL_cell_2 : decode cL_cell 2 = .ok (.arraylength, 1) := by decide +kernel
theorem dL_cell_3 : decode cL_cell 3 = .ok (.if_icmp .ge 9, 3) := by decide +kernel
theorem dL_cell_6 : decode cL_cell 6 = .ok (.aload_n 0, 1) := by decide +kernel
theorem dL_cell_7 : decode cL_cell 7 = .ok (.iload_n 1, 1) := by decide +kernel
theorem dL_cell_8 : decode cL_cell 8 = .ok (.iaload, 1) := by decide +kernel
theorem dL_cell_9 : decode cL_cell 9 = .ok (.goto 9, 3) := by decide +kernel
theorem dL_cell_12 : decode cL_cell 12 = .ok (.ldc 7, 2) := by decide +kernel
theorem dL_cell_14 : decode cL_cell 14 = .ok (.iload_n 1, 1) := by decide +kernel
theorem dL_cell_15 : decode cL_cell 15 = .ok (.iconst 1, 1) := by decide +kernel
theorem dL_cell_16 : decode cL_cell 16 = .ok (.iadd, 1) := by decide +kernel
theorem dL_cell_17 : decode cL_cell 17 = .ok (.imul, 1) := by decide +kernel
theorem dL_cell_18 : decode cL_cell 18 = .ok (.ireturn, 1) := by decide +kernel
theorem dL_low_0 : decode cL_low 0 = .ok (.iload_n 0, 1) := by decide +kernel
theorem dL_low_1 : decode cL_low 1 = .ok (.ldc 8, 2) := by decide +kernel
theorem dL_low_3 : decode cL_low 3 = .ok (.iand, 1) := by decide +kernel
theorem dL_low_4 : decode cL_low 4 = .ok (.iload_n 1, 1) := by decide +kernel
theorem dL_low_5 : decode cL_low 5 = .ok (.irem, 1) := by decide +kernel
theorem dL_low_6 : decode cL_low 6 = .ok (.ireturn, 1) := by decide +kernel
theorem dL_begins_0 : decode cL_begins 0 = .ok (.aload_n 0, 1) := by decide +kernel
theorem dL_begins_1 : decode cL_begins 1 = .ok (.iconst 3, 1) := by decide +kernel
theorem dL_begins_2 : decode cL_begins 2 = .ok (.invokestatic 9, 3) := by decide +kernel
theorem dL_begins_5 : decode cL_begins 5 = .ok (.aload_n 0, 1) := by decide +kernel
theorem dL_begins_6 : decode cL_begins 6 = .ok (.bipush 57, 2) := by decide +kernel
theorem dL_begins_8 : decode cL_begins 8 = .ok (.iconst 4, 1) := by decide +kernel
theorem dL_begins_9 : decode cL_begins 9 = .ok (.iastore, 1) := by decide +kernel
theorem dL_begins_10 : decode cL_begins 10 = .ok (.aload_n 0, 1) := by decide +kernel
theorem dL_begins_11 : decode cL_begins 11 = .ok (.bipush 58, 2) := by decide +kernel
theorem dL_begins_13 : decode cL_begins 13 = .ok (.bipush 12, 2) := by decide +kernel
theorem dL_begins_15 : decode cL_begins 15 = .ok (.iastore, 1) := by decide +kernel
theorem dL_begins_16 : decode cL_begins 16 = .ok (.aload_n 0, 1) := by decide +kernel
theorem dL_begins_17 : decode cL_begins 17 = .ok (.bipush 59, 2) := by decide +kernel
theorem dL_begins_19 : decode cL_begins 19 = .ok (.iconst 1, 1) := by decide +kernel
theorem dL_begins_20 : decode cL_begins 20 = .ok (.iastore, 1) := by decide +kernel
theorem dL_begins_21 : decode cL_begins 21 = .ok (.aload_n 0, 1) := by decide +kernel
theorem dL_begins_22 : decode cL_begins 22 = .ok (.bipush 60, 2) := by decide +kernel
theorem dL_begins_24 : decode cL_begins 24 = .ok (.bipush 100, 2) := by decide +kernel
theorem dL_begins_26 : decode cL_begins 26 = .ok (.iastore, 1) := by decide +kernel
theorem dL_begins_27 : decode cL_begins 27 = .ok (.aload_n 0, 1) := by decide +kernel
theorem dL_begins_28 : decode cL_begins 28 = .ok (.bipush 61, 2) := by decide +kernel
theorem dL_begins_30 : decode cL_begins 30 = .ok (.bipush 8, 2) := by decide +kernel
theorem dL_begins_32 : decode cL_begins 32 = .ok (.iastore, 1) := by decide +kernel
theorem dL_begins_33 : decode cL_begins 33 = .ok (.return_, 1) := by decide +kernel
theorem dL_couples_0 : decode cL_couples 0 = .ok (.iconst 0, 1) := by decide +kernel
theorem dL_couples_1 : decode cL_couples 1 = .ok (.istore_n 2, 1) := by decide +kernel
theorem dL_couples_2 : decode cL_couples 2 = .ok (.iload_n 2, 1) := by decide +kernel
theorem dL_couples_3 : decode cL_couples 3 = .ok (.bipush 48, 2) := by decide +kernel
theorem dL_couples_5 : decode cL_couples 5 = .ok (.if_icmp .ge 27, 3) := by decide +kernel
theorem dL_couples_8 : decode cL_couples 8 = .ok (.aload_n 0, 1) := by decide +kernel
theorem dL_couples_9 : decode cL_couples 9 = .ok (.iload_n 2, 1) := by decide +kernel
theorem dL_couples_10 : decode cL_couples 10 = .ok (.iload_n 2, 1) := by decide +kernel
theorem dL_couples_11 : decode cL_couples 11 = .ok (.bipush 8, 2) := by decide +kernel
theorem dL_couples_13 : decode cL_couples 13 = .ok (.irem, 1) := by decide +kernel
theorem dL_couples_14 : decode cL_couples 14 = .ok (.iconst 4, 1) := by decide +kernel
theorem dL_couples_15 : decode cL_couples 15 = .ok (.if_icmp .le 9, 3) := by decide +kernel
theorem dL_couples_18 : decode cL_couples 18 = .ok (.sipush (-1001), 3) := by decide +kernel
theorem dL_couples_21 : decode cL_couples 21 = .ok (.goto 4, 3) := by decide +kernel
theorem dL_couples_24 : decode cL_couples 24 = .ok (.iconst 0, 1) := by decide +kernel
theorem dL_couples_25 : decode cL_couples 25 = .ok (.iastore, 1) := by decide +kernel
theorem dL_couples_26 : decode cL_couples 26 = .ok (.iinc 2 1, 3) := by decide +kernel
theorem dL_couples_29 : decode cL_couples 29 = .ok (.goto (-27), 3) := by decide +kernel
theorem dL_couples_32 : decode cL_couples 32 = .ok (.aload_n 0, 1) := by decide +kernel
theorem dL_couples_33 : decode cL_couples 33 = .ok (.bipush 48, 2) := by decide +kernel
theorem dL_couples_35 : decode cL_couples 35 = .ok (.iload_n 1, 1) := by decide +kernel
theorem dL_couples_36 : decode cL_couples 36 = .ok (.iastore, 1) := by decide +kernel
theorem dL_couples_37 : decode cL_couples 37 = .ok (.aload_n 0, 1) := by decide +kernel
theorem dL_couples_38 : decode cL_couples 38 = .ok (.bipush 49, 2) := by decide +kernel
theorem dL_couples_40 : decode cL_couples 40 = .ok (.iconst (-1), 1) := by decide +kernel
theorem dL_couples_41 : decode cL_couples 41 = .ok (.iastore, 1) := by decide +kernel
theorem dL_couples_42 : decode cL_couples 42 = .ok (.aload_n 0, 1) := by decide +kernel
theorem dL_couples_43 : decode cL_couples 43 = .ok (.bipush 50, 2) := by decide +kernel
theorem dL_couples_45 : decode cL_couples 45 = .ok (.iconst 0, 1) := by decide +kernel
theorem dL_couples_46 : decode cL_couples 46 = .ok (.iastore, 1) := by decide +kernel
theorem dL_couples_47 : decode cL_couples 47 = .ok (.aload_n 0, 1) := by decide +kernel
theorem dL_couples_48 : decode cL_couples 48 = .ok (.bipush 51, 2) := by decide +kernel
theorem dL_couples_50 : decode cL_couples 50 = .ok (.iconst 0, 1) := by decide +kernel
theorem dL_couples_51 : decode cL_couples 51 = .ok (.iastore, 1) := by decide +kernel
theorem dL_couples_52 : decode cL_couples 52 = .ok (.return_, 1) := by decide +kernel
theorem dL_height_0 : decode cL_height 0 = .ok (.aload_n 0, 1) := by decide +kernel
theorem dL_height_1 : decode cL_height 1 = .ok (.iload_n 1, 1) := by decide +kernel
theorem dL_height_2 : decode cL_height 2 = .ok (.iaload, 1) := by decide +kernel
theorem dL_height_3 : decode cL_height 3 = .ok (.bipush 10, 2) := by decide +kernel
theorem dL_height_5 : decode cL_height 5 = .ok (.iload_n 2, 1) := by decide +kernel
theorem dL_height_6 : decode cL_height 6 = .ok (.imul, 1) := by decide +kernel
theorem dL_height_7 : decode cL_height 7 = .ok (.ishr, 1) := by decide +kernel
theorem dL_height_8 : decode cL_height 8 = .ok (.sipush 1023, 3) := by decide +kernel
theorem dL_height_11 : decode cL_height 11 = .ok (.iand, 1) := by decide +kernel
theorem dL_height_12 : decode cL_height 12 = .ok (.ireturn, 1) := by decide +kernel
theorem dL_comes_0 : decode cL_comes 0 = .ok (.aload_n 0, 1) := by decide +kernel
theorem dL_comes_1 : decode cL_comes 1 = .ok (.iload_n 1, 1) := by decide +kernel
theorem dL_comes_2 : decode cL_comes 2 = .ok (.dup2, 1) := by decide +kernel
theorem dL_comes_3 : decode cL_comes 3 = .ok (.iaload, 1) := by decide +kernel
theorem dL_comes_4 : decode cL_comes 4 = .ok (.iload_n 3, 1) := by decide +kernel
theorem dL_comes_5 : decode cL_comes 5 = .ok (.bipush 10, 2) := by decide +kernel
theorem dL_comes_7 : decode cL_comes 7 = .ok (.iload_n 2, 1) := by decide +kernel
theorem dL_comes_8 : decode cL_comes 8 = .ok (.imul, 1) := by decide +kernel
theorem dL_comes_9 : decode cL_comes 9 = .ok (.ishl, 1) := by decide +kernel
theorem dL_comes_10 : decode cL_comes 10 = .ok (.iadd, 1) := by decide +kernel
theorem dL_comes_11 : decode cL_comes 11 = .ok (.iastore, 1) := by decide +kernel
theorem dL_comes_12 : decode cL_comes 12 = .ok (.return_, 1) := by decide +kernel
theorem dL_moves_0 : decode cL_moves 0 = .ok (.bipush 8, 2) := by decide +kernel
theorem dL_moves_2 : decode cL_moves 2 = .ok (.iload_n 1, 1) := by decide +kernel
theorem dL_moves_3 : decode cL_moves 3 = .ok (.imul, 1) := by decide +kernel
theorem dL_moves_4 : decode cL_moves 4 = .ok (.istore 4, 2) := by decide +kernel
theorem dL_moves_6 : decode cL_moves 6 = .ok (.aload_n 0, 1) := by decide +kernel
theorem dL_moves_7 : decode cL_moves 7 = .ok (.iload 4, 2) := by decide +kernel
theorem dL_moves_9 : decode cL_moves 9 = .ok (.iconst 2, 1) := by decide +kernel
theorem dL_moves_10 : decode cL_moves 10 = .ok (.iadd, 1) := by decide +kernel
theorem dL_moves_11 : decode cL_moves 11 = .ok (.iload_n 2, 1) := by decide +kernel
theorem dL_moves_12 : decode cL_moves 12 = .ok (.iadd, 1) := by decide +kernel
theorem dL_moves_13 : decode cL_moves 13 = .ok (.iaload, 1) := by decide +kernel
theorem dL_moves_14 : decode cL_moves 14 = .ok (.ifCond .le 7, 3) := by decide +kernel
theorem dL_moves_17 : decode cL_moves 17 = .ok (.iconst 1, 1) := by decide +kernel
theorem dL_moves_18 : decode cL_moves 18 = .ok (.goto 4, 3) := by decide +kernel
theorem dL_moves_21 : decode cL_moves 21 = .ok (.iconst 0, 1) := by decide +kernel
theorem dL_moves_22 : decode cL_moves 22 = .ok (.istore 5, 2) := by decide +kernel
theorem dL_moves_24 : decode cL_moves 24 = .ok (.aload_n 0, 1) := by decide +kernel
theorem dL_moves_25 : decode cL_moves 25 = .ok (.iload 4, 2) := by decide +kernel
theorem dL_moves_27 : decode cL_moves 27 = .ok (.iconst 2, 1) := by decide +kernel
theorem dL_moves_28 : decode cL_moves 28 = .ok (.iadd, 1) := by decide +kernel
theorem dL_moves_29 : decode cL_moves 29 = .ok (.iload_n 2, 1) := by decide +kernel
theorem dL_moves_30 : decode cL_moves 30 = .ok (.iadd, 1) := by decide +kernel
theorem dL_moves_31 : decode cL_moves 31 = .ok (.iload_n 3, 1) := by decide +kernel
theorem dL_moves_32 : decode cL_moves 32 = .ok (.ifCond .le 7, 3) := by decide +kernel
theorem dL_moves_35 : decode cL_moves 35 = .ok (.iload_n 3, 1) := by decide +kernel
theorem dL_moves_36 : decode cL_moves 36 = .ok (.goto 11, 3) := by decide +kernel
theorem dL_moves_39 : decode cL_moves 39 = .ok (.aload_n 0, 1) := by decide +kernel
theorem dL_moves_40 : decode cL_moves 40 = .ok (.iload 4, 2) := by decide +kernel
theorem dL_moves_42 : decode cL_moves 42 = .ok (.iconst 2, 1) := by decide +kernel
theorem dL_moves_43 : decode cL_moves 43 = .ok (.iadd, 1) := by decide +kernel
theorem dL_moves_44 : decode cL_moves 44 = .ok (.iload_n 2, 1) := by decide +kernel
theorem dL_moves_45 : decode cL_moves 45 = .ok (.iadd, 1) := by decide +kernel
theorem dL_moves_46 : decode cL_moves 46 = .ok (.iaload, 1) := by decide +kernel
theorem dL_moves_47 : decode cL_moves 47 = .ok (.iastore, 1) := by decide +kernel
theorem dL_moves_48 : decode cL_moves 48 = .ok (.aload_n 0, 1) := by decide +kernel
theorem dL_moves_49 : decode cL_moves 49 = .ok (.iload 4, 2) := by decide +kernel
theorem dL_moves_51 : decode cL_moves 51 = .ok (.iconst 5, 1) := by decide +kernel
theorem dL_moves_52 : decode cL_moves 52 = .ok (.iadd, 1) := by decide +kernel
theorem dL_moves_53 : decode cL_moves 53 = .ok (.iload_n 2, 1) := by decide +kernel
theorem dL_moves_54 : decode cL_moves 54 = .ok (.iadd, 1) := by decide +kernel
theorem dL_moves_55 : decode cL_moves 55 = .ok (.iload_n 3, 1) := by decide +kernel
theorem dL_moves_56 : decode cL_moves 56 = .ok (.ifCond .le 9, 3) := by decide +kernel
theorem dL_moves_59 : decode cL_moves 59 = .ok (.sipush (-1001), 3) := by decide +kernel
theorem dL_moves_62 : decode cL_moves 62 = .ok (.goto 23, 3) := by decide +kernel
theorem dL_moves_65 : decode cL_moves 65 = .ok (.iload 5, 2) := by decide +kernel
theorem dL_moves_67 : decode cL_moves 67 = .ok (.ifCond .eq 10, 3) := by decide +kernel
theorem dL_moves_70 : decode cL_moves 70 = .ok (.aload_n 0, 1) := by decide +kernel
theorem dL_moves_71 : decode cL_moves 71 = .ok (.bipush 59, 2) := by decide +kernel
theorem dL_moves_73 : decode cL_moves 73 = .ok (.iaload, 1) := by decide +kernel
theorem dL_moves_74 : decode cL_moves 74 = .ok (.goto 11, 3) := by decide +kernel
theorem dL_moves_77 : decode cL_moves 77 = .ok (.aload_n 0, 1) := by decide +kernel
theorem dL_moves_78 : decode cL_moves 78 = .ok (.iload 4, 2) := by decide +kernel
theorem dL_moves_80 : decode cL_moves 80 = .ok (.iconst 5, 1) := by decide +kernel
theorem dL_moves_81 : decode cL_moves 81 = .ok (.iadd, 1) := by decide +kernel
theorem dL_moves_82 : decode cL_moves 82 = .ok (.iload_n 2, 1) := by decide +kernel
theorem dL_moves_83 : decode cL_moves 83 = .ok (.iadd, 1) := by decide +kernel
theorem dL_moves_84 : decode cL_moves 84 = .ok (.iaload, 1) := by decide +kernel
theorem dL_moves_85 : decode cL_moves 85 = .ok (.iastore, 1) := by decide +kernel
theorem dL_moves_86 : decode cL_moves 86 = .ok (.return_, 1) := by decide +kernel
theorem dL_drops_0 : decode cL_drops 0 = .ok (.aload_n 0, 1) := by decide +kernel
theorem dL_drops_1 : decode cL_drops 1 = .ok (.bipush 60, 2) := by decide +kernel
theorem dL_drops_3 : decode cL_drops 3 = .ok (.dup2, 1) := by decide +kernel
theorem dL_drops_4 : decode cL_drops 4 = .ok (.iaload, 1) := by decide +kernel
theorem dL_drops_5 : decode cL_drops 5 = .ok (.iconst 1, 1) := by decide +kernel
theorem dL_drops_6 : decode cL_drops 6 = .ok (.isub, 1) := by decide +kernel
theorem dL_drops_7 : decode cL_drops 7 = .ok (.iastore, 1) := by decide +kernel
theorem dL_drops_8 : decode cL_drops 8 = .ok (.iconst 5, 1) := by decide +kernel
theorem dL_drops_9 : decode cL_drops 9 = .ok (.iload_n 1, 1) := by decide +kernel
theorem dL_drops_10 : decode cL_drops 10 = .ok (.imul, 1) := by decide +kernel
theorem dL_drops_11 : decode cL_drops 11 = .ok (.istore_n 2, 1) := by decide +kernel
theorem dL_drops_12 : decode cL_drops 12 = .ok (.iload_n 2, 1) := by decide +kernel
theorem dL_drops_13 : decode cL_drops 13 = .ok (.iconst 5, 1) := by decide +kernel
theorem dL_drops_14 : decode cL_drops 14 = .ok (.aload_n 0, 1) := by decide +kernel
theorem dL_drops_15 : decode cL_drops 15 = .ok (.bipush 60, 2) := by decide +kernel
theorem dL_drops_17 : decode cL_drops 17 = .ok (.iaload, 1) := by decide +kernel
theorem dL_drops_18 : decode cL_drops 18 = .ok (.imul, 1) := by decide +kernel
theorem dL_drops_19 : decode cL_drops 19 = .ok (.if_icmp .ge 17, 3) := by decide +kernel
theorem dL_drops_22 : decode cL_drops 22 = .ok (.aload_n 0, 1) := by decide +kernel
theorem dL_drops_23 : decode cL_drops 23 = .ok (.iload_n 2, 1) := by decide +kernel
theorem dL_drops_24 : decode cL_drops 24 = .ok (.aload_n 0, 1) := by decide +kernel
theorem dL_drops_25 : decode cL_drops 25 = .ok (.iload_n 2, 1) := by decide +kernel
theorem dL_drops_26 : decode cL_drops 26 = .ok (.iconst 5, 1) := by decide +kernel
theorem dL_drops_27 : decode cL_drops 27 = .ok (.iadd, 1) := by decide +kernel
theorem dL_drops_28 : decode cL_drops 28 = .ok (.iaload, 1) := by decide +kernel
theorem dL_drops_29 : decode cL_drops 29 = .ok (.iastore, 1) := by decide +kernel
theorem dL_drops_30 : decode cL_drops 30 = .ok (.iinc 2 1, 3) := by decide +kernel
theorem dL_drops_33 : decode cL_drops 33 = .ok (.goto (-21), 3) := by decide +kernel
theorem dL_drops_36 : decode cL_drops 36 = .ok (.return_, 1) := by decide +kernel
theorem dL_orders_0 : decode cL_orders 0 = .ok (.iconst 0, 1) := by decide +kernel
theorem dL_orders_1 : decode cL_orders 1 = .ok (.istore_n 2, 1) := by decide +kernel
theorem dL_orders_2 : decode cL_orders 2 = .ok (.iload_n 2, 1) := by decide +kernel
theorem dL_orders_3 : decode cL_orders 3 = .ok (.aload_n 1, 1) := by decide +kernel
theorem dL_orders_4 : decode cL_orders 4 = .ok (.bipush 60, 2) := by decide +kernel
theorem dL_orders_6 : decode cL_orders 6 = .ok (.iaload, 1) := by decide +kernel
theorem dL_orders_7 : decode cL_orders 7 = .ok (.if_icmp .ge 136, 3) := by decide +kernel
theorem dL_orders_10 : decode cL_orders 10 = .ok (.iconst 5, 1) := by decide +kernel
theorem dL_orders_11 : decode cL_orders 11 = .ok (.iload_n 2, 1) := by decide +kernel
theorem dL_orders_12 : decode cL_orders 12 = .ok (.imul, 1) := by decide +kernel
theorem dL_orders_13 : decode cL_orders 13 = .ok (.istore_n 3, 1) := by decide +kernel
theorem dL_orders_14 : decode cL_orders 14 = .ok (.aload_n 1, 1) := by decide +kernel
theorem dL_orders_15 : decode cL_orders 15 = .ok (.iload_n 3, 1) := by decide +kernel
theorem dL_orders_16 : decode cL_orders 16 = .ok (.iconst 1, 1) := by decide +kernel
theorem dL_orders_17 : decode cL_orders 17 = .ok (.iadd, 1) := by decide +kernel
theorem dL_orders_18 : decode cL_orders 18 = .ok (.iaload, 1) := by decide +kernel
theorem dL_orders_19 : decode cL_orders 19 = .ok (.iconst 2, 1) := by decide +kernel
theorem dL_orders_20 : decode cL_orders 20 = .ok (.if_icmp .ne 7, 3) := by decide +kernel
theorem dL_orders_23 : decode cL_orders 23 = .ok (.iconst 1, 1) := by decide +kernel
theorem dL_orders_24 : decode cL_orders 24 = .ok (.goto 4, 3) := by decide +kernel
theorem dL_orders_27 : decode cL_orders 27 = .ok (.iconst 0, 1) := by decide +kernel
theorem dL_orders_28 : decode cL_orders 28 = .ok (.istore 4, 2) := by decide +kernel
theorem dL_orders_30 : decode cL_orders 30 = .ok (.iload 4, 2) := by decide +kernel
theorem dL_orders_32 : decode cL_orders 32 = .ok (.ifCond .eq 10, 3) := by decide +kernel
theorem dL_orders_35 : decode cL_orders 35 = .ok (.aload_n 0, 1) := by decide +kernel
theorem dL_orders_36 : decode cL_orders 36 = .ok (.bipush 49, 2) := by decide +kernel
theorem dL_orders_38 : decode cL_orders 38 = .ok (.iaload, 1) := by decide +kernel
theorem dL_orders_39 : decode cL_orders 39 = .ok (.goto 15, 3) := by decide +kernel
theorem dL_orders_42 : decode cL_orders 42 = .ok (.aload_n 0, 1) := by decide +kernel
theorem dL_orders_43 : decode cL_orders 43 = .ok (.bipush 49, 2) := by decide +kernel
theorem dL_orders_45 : decode cL_orders 45 = .ok (.iaload, 1) := by decide +kernel
theorem dL_orders_46 : decode cL_orders 46 = .ok (.iconst 4, 1) := by decide +kernel
theorem dL_orders_47 : decode cL_orders 47 = .ok (.aload_n 1, 1) := by decide +kernel
theorem dL_orders_48 : decode cL_orders 48 = .ok (.iload_n 3, 1) := by decide +kernel
theorem dL_orders_49 : decode cL_orders 49 = .ok (.iconst 2, 1) := by decide +kernel
theorem dL_orders_50 : decode cL_orders 50 = .ok (.iadd, 1) := by decide +kernel
theorem dL_orders_51 : decode cL_orders 51 = .ok (.iaload, 1) := by decide +kernel
theorem dL_orders_52 : decode cL_orders 52 = .ok (.imul, 1) := by decide +kernel
theorem dL_orders_53 : decode cL_orders 53 = .ok (.isub, 1) := by decide +kernel
theorem dL_orders_54 : decode cL_orders 54 = .ok (.istore 5, 2) := by decide +kernel
theorem dL_orders_56 : decode cL_orders 56 = .ok (.iload 5, 2) := by decide +kernel
theorem dL_orders_58 : decode cL_orders 58 = .ok (.aload_n 1, 1) := by decide +kernel
theorem dL_orders_59 : decode cL_orders 59 = .ok (.iload_n 3, 1) := by decide +kernel
theorem dL_orders_60 : decode cL_orders 60 = .ok (.iaload, 1) := by decide +kernel
theorem dL_orders_61 : decode cL_orders 61 = .ok (.if_icmp .lt 76, 3) := by decide +kernel
theorem dL_orders_64 : decode cL_orders 64 = .ok (.iload 4, 2) := by decide +kernel
theorem dL_orders_66 : decode cL_orders 66 = .ok (.ifCond .ne 15, 3) := by decide +kernel
theorem dL_orders_69 : decode cL_orders 69 = .ok (.aload_n 1, 1) := by decide +kernel
theorem dL_orders_70 : decode cL_orders 70 = .ok (.iload_n 3, 1) := by decide +kernel
theorem dL_orders_71 : decode cL_orders 71 = .ok (.iconst 2, 1) := by decide +kernel
theorem dL_orders_72 : decode cL_orders 72 = .ok (.iadd, 1) := by decide +kernel
theorem dL_orders_73 : decode cL_orders 73 = .ok (.iaload, 1) := by decide +kernel
theorem dL_orders_74 : decode cL_orders 74 = .ok (.aload_n 0, 1) := by decide +kernel
theorem dL_orders_75 : decode cL_orders 75 = .ok (.bipush 48, 2) := by decide +kernel
theorem dL_orders_77 : decode cL_orders 77 = .ok (.iaload, 1) := by decide +kernel
theorem dL_orders_78 : decode cL_orders 78 = .ok (.if_icmp .ge 59, 3) := by decide +kernel
theorem dL_orders_81 : decode cL_orders 81 = .ok (.iload 4, 2) := by decide +kernel
theorem dL_orders_83 : decode cL_orders 83 = .ok (.ifCond .eq 15, 3) := by decide +kernel
theorem dL_orders_86 : decode cL_orders 86 = .ok (.aload_n 0, 1) := by decide +kernel
theorem dL_orders_87 : decode cL_orders 87 = .ok (.bipush 51, 2) := by decide +kernel
theorem dL_orders_89 : decode cL_orders 89 = .ok (.aload_n 1, 1) := by decide +kernel
theorem dL_orders_90 : decode cL_orders 90 = .ok (.iload_n 3, 1) := by decide +kernel
theorem dL_orders_91 : decode cL_orders 91 = .ok (.iconst 4, 1) := by decide +kernel
theorem dL_orders_92 : decode cL_orders 92 = .ok (.iadd, 1) := by decide +kernel
theorem dL_orders_93 : decode cL_orders 93 = .ok (.iaload, 1) := by decide +kernel
theorem dL_orders_94 : decode cL_orders 94 = .ok (.iastore, 1) := by decide +kernel
theorem dL_orders_95 : decode cL_orders 95 = .ok (.goto 34, 3) := by decide +kernel
theorem dL_orders_98 : decode cL_orders 98 = .ok (.aload_n 0, 1) := by decide +kernel
theorem dL_orders_99 : decode cL_orders 99 = .ok (.aload_n 1, 1) := by decide +kernel
theorem dL_orders_100 : decode cL_orders 100 = .ok (.iload_n 3, 1) := by decide +kernel
theorem dL_orders_101 : decode cL_orders 101 = .ok (.iconst 2, 1) := by decide +kernel
theorem dL_orders_102 : decode cL_orders 102 = .ok (.iadd, 1) := by decide +kernel
theorem dL_orders_103 : decode cL_orders 103 = .ok (.iaload, 1) := by decide +kernel
theorem dL_orders_104 : decode cL_orders 104 = .ok (.aload_n 1, 1) := by decide +kernel
theorem dL_orders_105 : decode cL_orders 105 = .ok (.iload_n 3, 1) := by decide +kernel
theorem dL_orders_106 : decode cL_orders 106 = .ok (.iconst 3, 1) := by decide +kernel
theorem dL_orders_107 : decode cL_orders 107 = .ok (.iadd, 1) := by decide +kernel
theorem dL_orders_108 : decode cL_orders 108 = .ok (.iaload, 1) := by decide +kernel
theorem dL_orders_109 : decode cL_orders 109 = .ok (.aload_n 1, 1) := by decide +kernel
theorem dL_orders_110 : decode cL_orders 110 = .ok (.iload_n 3, 1) := by decide +kernel
theorem dL_orders_111 : decode cL_orders 111 = .ok (.iconst 1, 1) := by decide +kernel
theorem dL_orders_112 : decode cL_orders 112 = .ok (.iadd, 1) := by decide +kernel
theorem dL_orders_113 : decode cL_orders 113 = .ok (.iaload, 1) := by decide +kernel
theorem dL_orders_114 : decode cL_orders 114 = .ok (.ifCond .ne 11, 3) := by decide +kernel
theorem dL_orders_117 : decode cL_orders 117 = .ok (.aload_n 1, 1) := by decide +kernel
theorem dL_orders_118 : decode cL_orders 118 = .ok (.iload_n 3, 1) := by decide +kernel
theorem dL_orders_119 : decode cL_orders 119 = .ok (.iconst 4, 1) := by decide +kernel
theorem dL_orders_120 : decode cL_orders 120 = .ok (.iadd, 1) := by decide +kernel
theorem dL_orders_121 : decode cL_orders 121 = .ok (.iaload, 1) := by decide +kernel
theorem dL_orders_122 : decode cL_orders 122 = .ok (.goto 4, 3) := by decide +kernel
theorem dL_orders_125 : decode cL_orders 125 = .ok (.iconst 0, 1) := by decide +kernel
theorem dL_orders_126 : decode cL_orders 126 = .ok (.invokestatic 15, 3) := by decide +kernel
theorem dL_orders_129 : decode cL_orders 129 = .ok (.aload_n 1, 1) := by decide +kernel
theorem dL_orders_130 : decode cL_orders 130 = .ok (.iload_n 2, 1) := by decide +kernel
theorem dL_orders_131 : decode cL_orders 131 = .ok (.invokestatic 19, 3) := by decide +kernel
theorem dL_orders_134 : decode cL_orders 134 = .ok (.iinc 2 (-1), 3) := by decide +kernel
theorem dL_orders_137 : decode cL_orders 137 = .ok (.iinc 2 1, 3) := by decide +kernel
theorem dL_orders_140 : decode cL_orders 140 = .ok (.goto (-138), 3) := by decide +kernel
theorem dL_orders_143 : decode cL_orders 143 = .ok (.return_, 1) := by decide +kernel
theorem dL_second_0 : decode cL_second 0 = .ok (.aload_n 1, 1) := by decide +kernel
theorem dL_second_1 : decode cL_second 1 = .ok (.bipush 50, 2) := by decide +kernel
theorem dL_second_3 : decode cL_second 3 = .ok (.dup2, 1) := by decide +kernel
theorem dL_second_4 : decode cL_second 4 = .ok (.iaload, 1) := by decide +kernel
theorem dL_second_5 : decode cL_second 5 = .ok (.aload_n 1, 1) := by decide +kernel
theorem dL_second_6 : decode cL_second 6 = .ok (.bipush 51, 2) := by decide +kernel
theorem dL_second_8 : decode cL_second 8 = .ok (.iaload, 1) := by decide +kernel
theorem dL_second_9 : decode cL_second 9 = .ok (.aload_n 1, 1) := by decide +kernel
theorem dL_second_10 : decode cL_second 10 = .ok (.bipush 50, 2) := by decide +kernel
theorem dL_second_12 : decode cL_second 12 = .ok (.iaload, 1) := by decide +kernel
theorem dL_second_13 : decode cL_second 13 = .ok (.if_icmp .ne 7, 3) := by decide +kernel
theorem dL_second_16 : decode cL_second 16 = .ok (.iconst 0, 1) := by decide +kernel
theorem dL_second_17 : decode cL_second 17 = .ok (.goto 19, 3) := by decide +kernel
theorem dL_second_20 : decode cL_second 20 = .ok (.aload_n 1, 1) := by decide +kernel
theorem dL_second_21 : decode cL_second 21 = .ok (.bipush 51, 2) := by decide +kernel
theorem dL_second_23 : decode cL_second 23 = .ok (.iaload, 1) := by decide +kernel
theorem dL_second_24 : decode cL_second 24 = .ok (.aload_n 1, 1) := by decide +kernel
theorem dL_second_25 : decode cL_second 25 = .ok (.bipush 50, 2) := by decide +kernel
theorem dL_second_27 : decode cL_second 27 = .ok (.iaload, 1) := by decide +kernel
theorem dL_second_28 : decode cL_second 28 = .ok (.if_icmp .le 7, 3) := by decide +kernel
theorem dL_second_31 : decode cL_second 31 = .ok (.iconst 1, 1) := by decide +kernel
theorem dL_second_32 : decode cL_second 32 = .ok (.goto 4, 3) := by decide +kernel
theorem dL_second_35 : decode cL_second 35 = .ok (.iconst (-1), 1) := by decide +kernel
theorem dL_second_36 : decode cL_second 36 = .ok (.iadd, 1) := by decide +kernel
theorem dL_second_37 : decode cL_second 37 = .ok (.iastore, 1) := by decide +kernel
theorem dL_second_38 : decode cL_second 38 = .ok (.aload_n 1, 1) := by decide +kernel
theorem dL_second_39 : decode cL_second 39 = .ok (.bipush 49, 2) := by decide +kernel
theorem dL_second_41 : decode cL_second 41 = .ok (.aload_n 1, 1) := by decide +kernel
theorem dL_second_42 : decode cL_second 42 = .ok (.bipush 49, 2) := by decide +kernel
theorem dL_second_44 : decode cL_second 44 = .ok (.iaload, 1) := by decide +kernel
theorem dL_second_45 : decode cL_second 45 = .ok (.aload_n 1, 1) := by decide +kernel
theorem dL_second_46 : decode cL_second 46 = .ok (.bipush 50, 2) := by decide +kernel
theorem dL_second_48 : decode cL_second 48 = .ok (.iaload, 1) := by decide +kernel
theorem dL_second_49 : decode cL_second 49 = .ok (.iadd, 1) := by decide +kernel
theorem dL_second_50 : decode cL_second 50 = .ok (.bipush 99, 2) := by decide +kernel
theorem dL_second_52 : decode cL_second 52 = .ok (.if_icmp .le 8, 3) := by decide +kernel
theorem dL_second_55 : decode cL_second 55 = .ok (.bipush 99, 2) := by decide +kernel
theorem dL_second_57 : decode cL_second 57 = .ok (.goto 12, 3) := by decide +kernel
theorem dL_second_60 : decode cL_second 60 = .ok (.aload_n 1, 1) := by decide +kernel
theorem dL_second_61 : decode cL_second 61 = .ok (.bipush 49, 2) := by decide +kernel
theorem dL_second_63 : decode cL_second 63 = .ok (.iaload, 1) := by decide +kernel
theorem dL_second_64 : decode cL_second 64 = .ok (.aload_n 1, 1) := by decide +kernel
theorem dL_second_65 : decode cL_second 65 = .ok (.bipush 50, 2) := by decide +kernel
theorem dL_second_67 : decode cL_second 67 = .ok (.iaload, 1) := by decide +kernel
theorem dL_second_68 : decode cL_second 68 = .ok (.iadd, 1) := by decide +kernel
theorem dL_second_69 : decode cL_second 69 = .ok (.iastore, 1) := by decide +kernel
theorem dL_second_70 : decode cL_second 70 = .ok (.aload_n 1, 1) := by decide +kernel
theorem dL_second_71 : decode cL_second 71 = .ok (.aload_n 2, 1) := by decide +kernel
theorem dL_second_72 : decode cL_second 72 = .ok (.invokestatic 22, 3) := by decide +kernel
theorem dL_second_75 : decode cL_second 75 = .ok (.iconst 0, 1) := by decide +kernel
theorem dL_second_76 : decode cL_second 76 = .ok (.istore_n 3, 1) := by decide +kernel
theorem dL_second_77 : decode cL_second 77 = .ok (.iload_n 3, 1) := by decide +kernel
theorem dL_second_78 : decode cL_second 78 = .ok (.aload_n 1, 1) := by decide +kernel
theorem dL_second_79 : decode cL_second 79 = .ok (.bipush 48, 2) := by decide +kernel
theorem dL_second_81 : decode cL_second 81 = .ok (.iaload, 1) := by decide +kernel
theorem dL_second_82 : decode cL_second 82 = .ok (.if_icmp .ge 134, 3) := by decide +kernel
theorem dL_second_85 : decode cL_second 85 = .ok (.aload_n 1, 1) := by decide +kernel
theorem dL_second_86 : decode cL_second 86 = .ok (.bipush 49, 2) := by decide +kernel
theorem dL_second_88 : decode cL_second 88 = .ok (.iaload, 1) := by decide +kernel
theorem dL_second_89 : decode cL_second 89 = .ok (.iconst 4, 1) := by decide +kernel
theorem dL_second_90 : decode cL_second 90 = .ok (.iload_n 3, 1) := by decide +kernel
theorem dL_second_91 : decode cL_second 91 = .ok (.imul, 1) := by decide +kernel
theorem dL_second_92 : decode cL_second 92 = .ok (.isub, 1) := by decide +kernel
theorem dL_second_93 : decode cL_second 93 = .ok (.istore 4, 2) := by decide +kernel
theorem dL_second_95 : decode cL_second 95 = .ok (.iconst 0, 1) := by decide +kernel
theorem dL_second_96 : decode cL_second 96 = .ok (.istore 5, 2) := by decide +kernel
theorem dL_second_98 : decode cL_second 98 = .ok (.iload 5, 2) := by decide +kernel
theorem dL_second_100 : decode cL_second 100 = .ok (.iconst 3, 1) := by decide +kernel
theorem dL_second_101 : decode cL_second 101 = .ok (.if_icmp .ge 109, 3) := by decide +kernel
theorem dL_second_104 : decode cL_second 104 = .ok (.aload_n 1, 1) := by decide +kernel
theorem dL_second_105 : decode cL_second 105 = .ok (.bipush 8, 2) := by decide +kernel
theorem dL_second_107 : decode cL_second 107 = .ok (.iload_n 3, 1) := by decide +kernel
theorem dL_second_108 : decode cL_second 108 = .ok (.imul, 1) := by decide +kernel
theorem dL_second_109 : decode cL_second 109 = .ok (.iaload, 1) := by decide +kernel
theorem dL_second_110 : decode cL_second 110 = .ok (.aload_n 1, 1) := by decide +kernel
theorem dL_second_111 : decode cL_second 111 = .ok (.bipush 8, 2) := by decide +kernel
theorem dL_second_113 : decode cL_second 113 = .ok (.iload_n 3, 1) := by decide +kernel
theorem dL_second_114 : decode cL_second 114 = .ok (.imul, 1) := by decide +kernel
theorem dL_second_115 : decode cL_second 115 = .ok (.iconst 2, 1) := by decide +kernel
theorem dL_second_116 : decode cL_second 116 = .ok (.iadd, 1) := by decide +kernel
theorem dL_second_117 : decode cL_second 117 = .ok (.iload 5, 2) := by decide +kernel
theorem dL_second_119 : decode cL_second 119 = .ok (.iadd, 1) := by decide +kernel
theorem dL_second_120 : decode cL_second 120 = .ok (.iaload, 1) := by decide +kernel
theorem dL_second_121 : decode cL_second 121 = .ok (.if_icmp .ge 12, 3) := by decide +kernel
theorem dL_second_124 : decode cL_second 124 = .ok (.aload_n 1, 1) := by decide +kernel
theorem dL_second_125 : decode cL_second 125 = .ok (.bipush 8, 2) := by decide +kernel
theorem dL_second_127 : decode cL_second 127 = .ok (.iload_n 3, 1) := by decide +kernel
theorem dL_second_128 : decode cL_second 128 = .ok (.imul, 1) := by decide +kernel
theorem dL_second_129 : decode cL_second 129 = .ok (.iaload, 1) := by decide +kernel
theorem dL_second_130 : decode cL_second 130 = .ok (.goto 14, 3) := by decide +kernel
theorem dL_second_133 : decode cL_second 133 = .ok (.aload_n 1, 1) := by decide +kernel
theorem dL_second_134 : decode cL_second 134 = .ok (.bipush 8, 2) := by decide +kernel
theorem dL_second_136 : decode cL_second 136 = .ok (.iload_n 3, 1) := by decide +kernel
theorem dL_second_137 : decode cL_second 137 = .ok (.imul, 1) := by decide +kernel
theorem dL_second_138 : decode cL_second 138 = .ok (.iconst 2, 1) := by decide +kernel
theorem dL_second_139 : decode cL_second 139 = .ok (.iadd, 1) := by decide +kernel
theorem dL_second_140 : decode cL_second 140 = .ok (.iload 5, 2) := by decide +kernel
theorem dL_second_142 : decode cL_second 142 = .ok (.iadd, 1) := by decide +kernel
theorem dL_second_143 : decode cL_second 143 = .ok (.iaload, 1) := by decide +kernel
theorem dL_second_144 : decode cL_second 144 = .ok (.istore 6, 2) := by decide +kernel
theorem dL_second_146 : decode cL_second 146 = .ok (.aload_n 1, 1) := by decide +kernel
theorem dL_second_147 : decode cL_second 147 = .ok (.bipush 8, 2) := by decide +kernel
theorem dL_second_149 : decode cL_second 149 = .ok (.iload_n 3, 1) := by decide +kernel
theorem dL_second_150 : decode cL_second 150 = .ok (.imul, 1) := by decide +kernel
theorem dL_second_151 : decode cL_second 151 = .ok (.dup2, 1) := by decide +kernel
theorem dL_second_152 : decode cL_second 152 = .ok (.iaload, 1) := by decide +kernel
theorem dL_second_153 : decode cL_second 153 = .ok (.iload 6, 2) := by decide +kernel
theorem dL_second_155 : decode cL_second 155 = .ok (.isub, 1) := by decide +kernel
theorem dL_second_156 : decode cL_second 156 = .ok (.iastore, 1) := by decide +kernel
theorem dL_second_157 : decode cL_second 157 = .ok (.aload_n 1, 1) := by decide +kernel
theorem dL_second_158 : decode cL_second 158 = .ok (.bipush 8, 2) := by decide +kernel
theorem dL_second_160 : decode cL_second 160 = .ok (.iload_n 3, 1) := by decide +kernel
theorem dL_second_161 : decode cL_second 161 = .ok (.imul, 1) := by decide +kernel
theorem dL_second_162 : decode cL_second 162 = .ok (.iconst 1, 1) := by decide +kernel
theorem dL_second_163 : decode cL_second 163 = .ok (.iadd, 1) := by decide +kernel
theorem dL_second_164 : decode cL_second 164 = .ok (.dup2, 1) := by decide +kernel
theorem dL_second_165 : decode cL_second 165 = .ok (.iaload, 1) := by decide +kernel
theorem dL_second_166 : decode cL_second 166 = .ok (.iload 6, 2) := by decide +kernel
theorem dL_second_168 : decode cL_second 168 = .ok (.iadd, 1) := by decide +kernel
theorem dL_second_169 : decode cL_second 169 = .ok (.iastore, 1) := by decide +kernel
theorem dL_second_170 : decode cL_second 170 = .ok (.iload 4, 2) := by decide +kernel
theorem dL_second_172 : decode cL_second 172 = .ok (.ifCond .lt 10, 3) := by decide +kernel
theorem dL_second_175 : decode cL_second 175 = .ok (.iload 4, 2) := by decide +kernel
theorem dL_second_177 : decode cL_second 177 = .ok (.bipush 39, 2) := by decide +kernel
theorem dL_second_179 : decode cL_second 179 = .ok (.if_icmp .le 15, 3) := by decide +kernel
theorem dL_second_182 : decode cL_second 182 = .ok (.aload_n 1, 1) := by decide +kernel
theorem dL_second_183 : decode cL_second 183 = .ok (.bipush 55, 2) := by decide +kernel
theorem dL_second_185 : decode cL_second 185 = .ok (.dup2, 1) := by decide +kernel
theorem dL_second_186 : decode cL_second 186 = .ok (.iaload, 1) := by decide +kernel
theorem dL_second_187 : decode cL_second 187 = .ok (.iload 6, 2) := by decide +kernel
theorem dL_second_189 : decode cL_second 189 = .ok (.iadd, 1) := by decide +kernel
theorem dL_second_190 : decode cL_second 190 = .ok (.iastore, 1) := by decide +kernel
theorem dL_second_191 : decode cL_second 191 = .ok (.goto 13, 3) := by decide +kernel
theorem dL_second_194 : decode cL_second 194 = .ok (.aload_n 0, 1) := by decide +kernel
theorem dL_second_195 : decode cL_second 195 = .ok (.iload 4, 2) := by decide +kernel
theorem dL_second_197 : decode cL_second 197 = .ok (.iload 5, 2) := by decide +kernel
theorem dL_second_199 : decode cL_second 199 = .ok (.iload 6, 2) := by decide +kernel
theorem dL_second_201 : decode cL_second 201 = .ok (.invokestatic 26, 3) := by decide +kernel
theorem dL_second_204 : decode cL_second 204 = .ok (.iinc 5 1, 3) := by decide +kernel
theorem dL_second_207 : decode cL_second 207 = .ok (.goto (-109), 3) := by decide +kernel
theorem dL_second_210 : decode cL_second 210 = .ok (.iinc 3 1, 3) := by decide +kernel
theorem dL_second_213 : decode cL_second 213 = .ok (.goto (-136), 3) := by decide +kernel
theorem dL_second_216 : decode cL_second 216 = .ok (.iconst 0, 1) := by decide +kernel
theorem dL_second_217 : decode cL_second 217 = .ok (.istore_n 3, 1) := by decide +kernel
theorem dL_second_218 : decode cL_second 218 = .ok (.iload_n 3, 1) := by decide +kernel
theorem dL_second_219 : decode cL_second 219 = .ok (.bipush 39, 2) := by decide +kernel
theorem dL_second_221 : decode cL_second 221 = .ok (.if_icmp .ge 94, 3) := by decide +kernel
theorem dL_second_224 : decode cL_second 224 = .ok (.iconst 0, 1) := by decide +kernel
theorem dL_second_225 : decode cL_second 225 = .ok (.istore 4, 2) := by decide +kernel
theorem dL_second_227 : decode cL_second 227 = .ok (.iload 4, 2) := by decide +kernel
theorem dL_second_229 : decode cL_second 229 = .ok (.iconst 3, 1) := by decide +kernel
theorem dL_second_230 : decode cL_second 230 = .ok (.if_icmp .ge 79, 3) := by decide +kernel
theorem dL_second_233 : decode cL_second 233 = .ok (.aload_n 0, 1) := by decide +kernel
theorem dL_second_234 : decode cL_second 234 = .ok (.iload_n 3, 1) := by decide +kernel
theorem dL_second_235 : decode cL_second 235 = .ok (.iload 4, 2) := by decide +kernel
theorem dL_second_237 : decode cL_second 237 = .ok (.invokestatic 29, 3) := by decide +kernel
theorem dL_second_240 : decode cL_second 240 = .ok (.aload_n 0, 1) := by decide +kernel
theorem dL_second_241 : decode cL_second 241 = .ok (.iload_n 3, 1) := by decide +kernel
theorem dL_second_242 : decode cL_second 242 = .ok (.iconst 1, 1) := by decide +kernel
theorem dL_second_243 : decode cL_second 243 = .ok (.iadd, 1) := by decide +kernel
theorem dL_second_244 : decode cL_second 244 = .ok (.iload 4, 2) := by decide +kernel
theorem dL_second_246 : decode cL_second 246 = .ok (.invokestatic 29, 3) := by decide +kernel
theorem dL_second_249 : decode cL_second 249 = .ok (.isub, 1) := by decide +kernel
theorem dL_second_250 : decode cL_second 250 = .ok (.istore 5, 2) := by decide +kernel
theorem dL_second_252 : decode cL_second 252 = .ok (.iload 5, 2) := by decide +kernel
theorem dL_second_254 : decode cL_second 254 = .ok (.aload_n 1, 1) := by decide +kernel
theorem dL_second_255 : decode cL_second 255 = .ok (.bipush 57, 2) := by decide +kernel
theorem dL_second_257 : decode cL_second 257 = .ok (.iaload, 1) := by decide +kernel
theorem dL_second_258 : decode cL_second 258 = .ok (.if_icmp .le 7, 3) := by decide +kernel
theorem dL_second_261 : decode cL_second 261 = .ok (.iconst 1, 1) := by decide +kernel
theorem dL_second_262 : decode cL_second 262 = .ok (.goto 18, 3) := by decide +kernel
theorem dL_second_265 : decode cL_second 265 = .ok (.iload 5, 2) := by decide +kernel
theorem dL_second_267 : decode cL_second 267 = .ok (.aload_n 1, 1) := by decide +kernel
theorem dL_second_268 : decode cL_second 268 = .ok (.bipush 57, 2) := by decide +kernel
theorem dL_second_270 : decode cL_second 270 = .ok (.iaload, 1) := by decide +kernel
theorem dL_second_271 : decode cL_second 271 = .ok (.ineg, 1) := by decide +kernel
theorem dL_second_272 : decode cL_second 272 = .ok (.if_icmp .ge 7, 3) := by decide +kernel
theorem dL_second_275 : decode cL_second 275 = .ok (.iconst (-1), 1) := by decide +kernel
theorem dL_second_276 : decode cL_second 276 = .ok (.goto 4, 3) := by decide +kernel
theorem dL_second_279 : decode cL_second 279 = .ok (.iconst 0, 1) := by decide +kernel
theorem dL_second_280 : decode cL_second 280 = .ok (.istore 6, 2) := by decide +kernel
theorem dL_second_282 : decode cL_second 282 = .ok (.aload_n 0, 1) := by decide +kernel
theorem dL_second_283 : decode cL_second 283 = .ok (.iload_n 3, 1) := by decide +kernel
theorem dL_second_284 : decode cL_second 284 = .ok (.iload 4, 2) := by decide +kernel
theorem dL_second_286 : decode cL_second 286 = .ok (.iload 6, 2) := by decide +kernel
theorem dL_second_288 : decode cL_second 288 = .ok (.ineg, 1) := by decide +kernel
theorem dL_second_289 : decode cL_second 289 = .ok (.invokestatic 26, 3) := by decide +kernel
theorem dL_second_292 : decode cL_second 292 = .ok (.aload_n 0, 1) := by decide +kernel
theorem dL_second_293 : decode cL_second 293 = .ok (.iload_n 3, 1) := by decide +kernel
theorem dL_second_294 : decode cL_second 294 = .ok (.iconst 1, 1) := by decide +kernel
theorem dL_second_295 : decode cL_second 295 = .ok (.iadd, 1) := by decide +kernel
theorem dL_second_296 : decode cL_second 296 = .ok (.iload 4, 2) := by decide +kernel
theorem dL_second_298 : decode cL_second 298 = .ok (.iload 6, 2) := by decide +kernel
theorem dL_second_300 : decode cL_second 300 = .ok (.invokestatic 26, 3) := by decide +kernel
theorem dL_second_303 : decode cL_second 303 = .ok (.iinc 4 1, 3) := by decide +kernel
theorem dL_second_306 : decode cL_second 306 = .ok (.goto (-79), 3) := by decide +kernel
theorem dL_second_309 : decode cL_second 309 = .ok (.iinc 3 1, 3) := by decide +kernel
theorem dL_second_312 : decode cL_second 312 = .ok (.goto (-94), 3) := by decide +kernel
theorem dL_second_315 : decode cL_second 315 = .ok (.iconst 0, 1) := by decide +kernel
theorem dL_second_316 : decode cL_second 316 = .ok (.istore_n 3, 1) := by decide +kernel
theorem dL_second_317 : decode cL_second 317 = .ok (.iload_n 3, 1) := by decide +kernel
theorem dL_second_318 : decode cL_second 318 = .ok (.bipush 40, 2) := by decide +kernel
theorem dL_second_320 : decode cL_second 320 = .ok (.if_icmp .ge 62, 3) := by decide +kernel
theorem dL_second_323 : decode cL_second 323 = .ok (.iconst 0, 1) := by decide +kernel
theorem dL_second_324 : decode cL_second 324 = .ok (.istore 4, 2) := by decide +kernel
theorem dL_second_326 : decode cL_second 326 = .ok (.iload 4, 2) := by decide +kernel
theorem dL_second_328 : decode cL_second 328 = .ok (.iconst 3, 1) := by decide +kernel
theorem dL_second_329 : decode cL_second 329 = .ok (.if_icmp .ge 47, 3) := by decide +kernel
theorem dL_second_332 : decode cL_second 332 = .ok (.aload_n 0, 1) := by decide +kernel
theorem dL_second_333 : decode cL_second 333 = .ok (.iload_n 3, 1) := by decide +kernel
theorem dL_second_334 : decode cL_second 334 = .ok (.iload 4, 2) := by decide +kernel
theorem dL_second_336 : decode cL_second 336 = .ok (.invokestatic 29, 3) := by decide +kernel
theorem dL_second_339 : decode cL_second 339 = .ok (.aload_n 1, 1) := by decide +kernel
theorem dL_second_340 : decode cL_second 340 = .ok (.bipush 58, 2) := by decide +kernel
theorem dL_second_342 : decode cL_second 342 = .ok (.iaload, 1) := by decide +kernel
theorem dL_second_343 : decode cL_second 343 = .ok (.isub, 1) := by decide +kernel
theorem dL_second_344 : decode cL_second 344 = .ok (.istore 5, 2) := by decide +kernel
theorem dL_second_346 : decode cL_second 346 = .ok (.iload 5, 2) := by decide +kernel
theorem dL_second_348 : decode cL_second 348 = .ok (.ifCond .le 22, 3) := by decide +kernel
theorem dL_second_351 : decode cL_second 351 = .ok (.aload_n 0, 1) := by decide +kernel
theorem dL_second_352 : decode cL_second 352 = .ok (.iload_n 3, 1) := by decide +kernel
theorem dL_second_353 : decode cL_second 353 = .ok (.iload 4, 2) := by decide +kernel
theorem dL_second_355 : decode cL_second 355 = .ok (.iload 5, 2) := by decide +kernel
theorem dL_second_357 : decode cL_second 357 = .ok (.ineg, 1) := by decide +kernel
theorem dL_second_358 : decode cL_second 358 = .ok (.invokestatic 26, 3) := by decide +kernel
theorem dL_second_361 : decode cL_second 361 = .ok (.aload_n 1, 1) := by decide +kernel
theorem dL_second_362 : decode cL_second 362 = .ok (.bipush 55, 2) := by decide +kernel
theorem dL_second_364 : decode cL_second 364 = .ok (.dup2, 1) := by decide +kernel
theorem dL_second_365 : decode cL_second 365 = .ok (.iaload, 1) := by decide +kernel
theorem dL_second_366 : decode cL_second 366 = .ok (.iload 5, 2) := by decide +kernel
theorem dL_second_368 : decode cL_second 368 = .ok (.iadd, 1) := by decide +kernel
theorem dL_second_369 : decode cL_second 369 = .ok (.iastore, 1) := by decide +kernel
theorem dL_second_370 : decode cL_second 370 = .ok (.iinc 4 2, 3) := by decide +kernel
theorem dL_second_373 : decode cL_second 373 = .ok (.goto (-47), 3) := by decide +kernel
theorem dL_second_376 : decode cL_second 376 = .ok (.iinc 3 1, 3) := by decide +kernel
theorem dL_second_379 : decode cL_second 379 = .ok (.goto (-62), 3) := by decide +kernel
theorem dL_second_382 : decode cL_second 382 = .ok (.iconst 0, 1) := by decide +kernel
theorem dL_second_383 : decode cL_second 383 = .ok (.istore_n 3, 1) := by decide +kernel
theorem dL_second_384 : decode cL_second 384 = .ok (.iload_n 3, 1) := by decide +kernel
theorem dL_second_385 : decode cL_second 385 = .ok (.aload_n 1, 1) := by decide +kernel
theorem dL_second_386 : decode cL_second 386 = .ok (.bipush 48, 2) := by decide +kernel
theorem dL_second_388 : decode cL_second 388 = .ok (.iaload, 1) := by decide +kernel
theorem dL_second_389 : decode cL_second 389 = .ok (.if_icmp .ge 120, 3) := by decide +kernel
theorem dL_second_392 : decode cL_second 392 = .ok (.iconst 0, 1) := by decide +kernel
theorem dL_second_393 : decode cL_second 393 = .ok (.istore 4, 2) := by decide +kernel
theorem dL_second_395 : decode cL_second 395 = .ok (.iload 4, 2) := by decide +kernel
theorem dL_second_397 : decode cL_second 397 = .ok (.iconst 3, 1) := by decide +kernel
theorem dL_second_398 : decode cL_second 398 = .ok (.if_icmp .ge 105, 3) := by decide +kernel
theorem dL_second_401 : decode cL_second 401 = .ok (.bipush 8, 2) := by decide +kernel
theorem dL_second_403 : decode cL_second 403 = .ok (.iload_n 3, 1) := by decide +kernel
theorem dL_second_404 : decode cL_second 404 = .ok (.imul, 1) := by decide +kernel
theorem dL_second_405 : decode cL_second 405 = .ok (.iconst 5, 1) := by decide +kernel
theorem dL_second_406 : decode cL_second 406 = .ok (.iadd, 1) := by decide +kernel
theorem dL_second_407 : decode cL_second 407 = .ok (.iload 4, 2) := by decide +kernel
theorem dL_second_409 : decode cL_second 409 = .ok (.iadd, 1) := by decide +kernel
theorem dL_second_410 : decode cL_second 410 = .ok (.istore 5, 2) := by decide +kernel
theorem dL_second_412 : decode cL_second 412 = .ok (.aload_n 1, 1) := by decide +kernel
theorem dL_second_413 : decode cL_second 413 = .ok (.iload 5, 2) := by decide +kernel
theorem dL_second_415 : decode cL_second 415 = .ok (.iaload, 1) := by decide +kernel
theorem dL_second_416 : decode cL_second 416 = .ok (.ifCond .ne 66, 3) := by decide +kernel
theorem dL_second_419 : decode cL_second 419 = .ok (.aload_n 1, 1) := by decide +kernel
theorem dL_second_420 : decode cL_second 420 = .ok (.bipush 8, 2) := by decide +kernel
theorem dL_second_422 : decode cL_second 422 = .ok (.iload_n 3, 1) := by decide +kernel
theorem dL_second_423 : decode cL_second 423 = .ok (.imul, 1) := by decide +kernel
theorem dL_second_424 : decode cL_second 424 = .ok (.iaload, 1) := by decide +kernel
theorem dL_second_425 : decode cL_second 425 = .ok (.aload_n 1, 1) := by decide +kernel
theorem dL_second_426 : decode cL_second 426 = .ok (.bipush 60, 2) := by decide +kernel
theorem dL_second_428 : decode cL_second 428 = .ok (.iaload, 1) := by decide +kernel
theorem dL_second_429 : decode cL_second 429 = .ok (.if_icmp .le 7, 3) := by decide +kernel
theorem dL_second_432 : decode cL_second 432 = .ok (.iconst 1, 1) := by decide +kernel
theorem dL_second_433 : decode cL_second 433 = .ok (.goto 4, 3) := by decide +kernel
theorem dL_second_436 : decode cL_second 436 = .ok (.iconst 0, 1) := by decide +kernel
theorem dL_second_437 : decode cL_second 437 = .ok (.istore 6, 2) := by decide +kernel
theorem dL_second_439 : decode cL_second 439 = .ok (.aload_n 1, 1) := by decide +kernel
theorem dL_second_440 : decode cL_second 440 = .ok (.iload 5, 2) := by decide +kernel
theorem dL_second_442 : decode cL_second 442 = .ok (.iconst 3, 1) := by decide +kernel
theorem dL_second_443 : decode cL_second 443 = .ok (.isub, 1) := by decide +kernel
theorem dL_second_444 : decode cL_second 444 = .ok (.iload 6, 2) := by decide +kernel
theorem dL_second_446 : decode cL_second 446 = .ok (.ifCond .eq 7, 3) := by decide +kernel
theorem dL_second_449 : decode cL_second 449 = .ok (.iconst 1, 1) := by decide +kernel
theorem dL_second_450 : decode cL_second 450 = .ok (.goto 4, 3) := by decide +kernel
theorem dL_second_453 : decode cL_second 453 = .ok (.iconst 0, 1) := by decide +kernel
theorem dL_second_454 : decode cL_second 454 = .ok (.iastore, 1) := by decide +kernel
theorem dL_second_455 : decode cL_second 455 = .ok (.aload_n 1, 1) := by decide +kernel
theorem dL_second_456 : decode cL_second 456 = .ok (.bipush 53, 2) := by decide +kernel
theorem dL_second_458 : decode cL_second 458 = .ok (.dup2, 1) := by decide +kernel
theorem dL_second_459 : decode cL_second 459 = .ok (.iaload, 1) := by decide +kernel
theorem dL_second_460 : decode cL_second 460 = .ok (.iload 6, 2) := by decide +kernel
theorem dL_second_462 : decode cL_second 462 = .ok (.ifCond .eq 7, 3) := by decide +kernel
theorem dL_second_465 : decode cL_second 465 = .ok (.iconst 1, 1) := by decide +kernel
theorem dL_second_466 : decode cL_second 466 = .ok (.goto 4, 3) := by decide +kernel
theorem dL_second_469 : decode cL_second 469 = .ok (.iconst 0, 1) := by decide +kernel
theorem dL_second_470 : decode cL_second 470 = .ok (.iadd, 1) := by decide +kernel
theorem dL_second_471 : decode cL_second 471 = .ok (.iastore, 1) := by decide +kernel
theorem dL_second_472 : decode cL_second 472 = .ok (.aload_n 1, 1) := by decide +kernel
theorem dL_second_473 : decode cL_second 473 = .ok (.iload 5, 2) := by decide +kernel
theorem dL_second_475 : decode cL_second 475 = .ok (.sipush (-1001), 3) := by decide +kernel
theorem dL_second_478 : decode cL_second 478 = .ok (.iastore, 1) := by decide +kernel
theorem dL_second_479 : decode cL_second 479 = .ok (.goto 18, 3) := by decide +kernel
theorem dL_second_482 : decode cL_second 482 = .ok (.aload_n 1, 1) := by decide +kernel
theorem dL_second_483 : decode cL_second 483 = .ok (.iload 5, 2) := by decide +kernel
theorem dL_second_485 : decode cL_second 485 = .ok (.iaload, 1) := by decide +kernel
theorem dL_second_486 : decode cL_second 486 = .ok (.ifCond .le 11, 3) := by decide +kernel
theorem dL_second_489 : decode cL_second 489 = .ok (.aload_n 1, 1) := by decide +kernel
theorem dL_second_490 : decode cL_second 490 = .ok (.iload 5, 2) := by decide +kernel
theorem dL_second_492 : decode cL_second 492 = .ok (.dup2, 1) := by decide +kernel
theorem dL_second_493 : decode cL_second 493 = .ok (.iaload, 1) := by decide +kernel
theorem dL_second_494 : decode cL_second 494 = .ok (.iconst 1, 1) := by decide +kernel
theorem dL_second_495 : decode cL_second 495 = .ok (.isub, 1) := by decide +kernel
theorem dL_second_496 : decode cL_second 496 = .ok (.iastore, 1) := by decide +kernel
theorem dL_second_497 : decode cL_second 497 = .ok (.iinc 4 1, 3) := by decide +kernel
theorem dL_second_500 : decode cL_second 500 = .ok (.goto (-105), 3) := by decide +kernel
theorem dL_second_503 : decode cL_second 503 = .ok (.iinc 3 1, 3) := by decide +kernel
theorem dL_second_506 : decode cL_second 506 = .ok (.goto (-122), 3) := by decide +kernel
theorem dL_second_509 : decode cL_second 509 = .ok (.aload_n 1, 1) := by decide +kernel
theorem dL_second_510 : decode cL_second 510 = .ok (.bipush 52, 2) := by decide +kernel
theorem dL_second_512 : decode cL_second 512 = .ok (.dup2, 1) := by decide +kernel
theorem dL_second_513 : decode cL_second 513 = .ok (.iaload, 1) := by decide +kernel
theorem dL_second_514 : decode cL_second 514 = .ok (.iconst 1, 1) := by decide +kernel
theorem dL_second_515 : decode cL_second 515 = .ok (.iadd, 1) := by decide +kernel
theorem dL_second_516 : decode cL_second 516 = .ok (.iastore, 1) := by decide +kernel
theorem dL_second_517 : decode cL_second 517 = .ok (.return_, 1) := by decide +kernel
theorem dL_inWagons_0 : decode cL_inWagons 0 = .ok (.aload_n 0, 1) := by decide +kernel
theorem dL_inWagons_1 : decode cL_inWagons 1 = .ok (.iconst 0, 1) := by decide +kernel
theorem dL_inWagons_2 : decode cL_inWagons 2 = .ok (.iaload, 1) := by decide +kernel
theorem dL_inWagons_3 : decode cL_inWagons 3 = .ok (.aload_n 0, 1) := by decide +kernel
theorem dL_inWagons_4 : decode cL_inWagons 4 = .ok (.bipush 8, 2) := by decide +kernel
theorem dL_inWagons_6 : decode cL_inWagons 6 = .ok (.iaload, 1) := by decide +kernel
theorem dL_inWagons_7 : decode cL_inWagons 7 = .ok (.iadd, 1) := by decide +kernel
theorem dL_inWagons_8 : decode cL_inWagons 8 = .ok (.aload_n 0, 1) := by decide +kernel
theorem dL_inWagons_9 : decode cL_inWagons 9 = .ok (.bipush 16, 2) := by decide +kernel
theorem dL_inWagons_11 : decode cL_inWagons 11 = .ok (.iaload, 1) := by decide +kernel
theorem dL_inWagons_12 : decode cL_inWagons 12 = .ok (.iadd, 1) := by decide +kernel
theorem dL_inWagons_13 : decode cL_inWagons 13 = .ok (.aload_n 0, 1) := by decide +kernel
theorem dL_inWagons_14 : decode cL_inWagons 14 = .ok (.bipush 24, 2) := by decide +kernel
theorem dL_inWagons_16 : decode cL_inWagons 16 = .ok (.iaload, 1) := by decide +kernel
theorem dL_inWagons_17 : decode cL_inWagons 17 = .ok (.iadd, 1) := by decide +kernel
theorem dL_inWagons_18 : decode cL_inWagons 18 = .ok (.aload_n 0, 1) := by decide +kernel
theorem dL_inWagons_19 : decode cL_inWagons 19 = .ok (.bipush 32, 2) := by decide +kernel
theorem dL_inWagons_21 : decode cL_inWagons 21 = .ok (.iaload, 1) := by decide +kernel
theorem dL_inWagons_22 : decode cL_inWagons 22 = .ok (.iadd, 1) := by decide +kernel
theorem dL_inWagons_23 : decode cL_inWagons 23 = .ok (.aload_n 0, 1) := by decide +kernel
theorem dL_inWagons_24 : decode cL_inWagons 24 = .ok (.bipush 40, 2) := by decide +kernel
theorem dL_inWagons_26 : decode cL_inWagons 26 = .ok (.iaload, 1) := by decide +kernel
theorem dL_inWagons_27 : decode cL_inWagons 27 = .ok (.iadd, 1) := by decide +kernel
theorem dL_inWagons_28 : decode cL_inWagons 28 = .ok (.ireturn, 1) := by decide +kernel
theorem dL_sum_0 : decode cL_sum 0 = .ok (.iconst 0, 1) := by decide +kernel
theorem dL_sum_1 : decode cL_sum 1 = .ok (.istore_n 2, 1) := by decide +kernel
theorem dL_sum_2 : decode cL_sum 2 = .ok (.iconst 0, 1) := by decide +kernel
theorem dL_sum_3 : decode cL_sum 3 = .ok (.istore_n 3, 1) := by decide +kernel
theorem dL_sum_4 : decode cL_sum 4 = .ok (.iload_n 3, 1) := by decide +kernel
theorem dL_sum_5 : decode cL_sum 5 = .ok (.bipush 40, 2) := by decide +kernel
theorem dL_sum_7 : decode cL_sum 7 = .ok (.if_icmp .ge 18, 3) := by decide +kernel
theorem dL_sum_10 : decode cL_sum 10 = .ok (.iload_n 2, 1) := by decide +kernel
theorem dL_sum_11 : decode cL_sum 11 = .ok (.aload_n 0, 1) := by decide +kernel
theorem dL_sum_12 : decode cL_sum 12 = .ok (.iload_n 3, 1) := by decide +kernel
theorem dL_sum_13 : decode cL_sum 13 = .ok (.iload_n 1, 1) := by decide +kernel
theorem dL_sum_14 : decode cL_sum 14 = .ok (.invokestatic 29, 3) := by decide +kernel
theorem dL_sum_17 : decode cL_sum 17 = .ok (.iadd, 1) := by decide +kernel
theorem dL_sum_18 : decode cL_sum 18 = .ok (.istore_n 2, 1) := by decide +kernel
theorem dL_sum_19 : decode cL_sum 19 = .ok (.iinc 3 1, 3) := by decide +kernel
theorem dL_sum_22 : decode cL_sum 22 = .ok (.goto (-18), 3) := by decide +kernel
theorem dL_sum_25 : decode cL_sum 25 = .ok (.iload_n 2, 1) := by decide +kernel
theorem dL_sum_26 : decode cL_sum 26 = .ok (.ireturn, 1) := by decide +kernel
theorem dL_sets_0 : decode cL_sets 0 = .ok (.aload_n 1, 1) := by decide +kernel
theorem dL_sets_1 : decode cL_sets 1 = .ok (.bipush 57, 2) := by decide +kernel
theorem dL_sets_3 : decode cL_sets 3 = .ok (.iload_n 2, 1) := by decide +kernel
theorem dL_sets_4 : decode cL_sets 4 = .ok (.iadd, 1) := by decide +kernel
theorem dL_sets_5 : decode cL_sets 5 = .ok (.iaload, 1) := by decide +kernel
theorem dL_sets_6 : decode cL_sets 6 = .ok (.istore 4, 2) := by decide +kernel
theorem dL_sets_8 : decode cL_sets 8 = .ok (.aload_n 1, 1) := by decide +kernel
theorem dL_sets_9 : decode cL_sets 9 = .ok (.bipush 57, 2) := by decide +kernel
theorem dL_sets_11 : decode cL_sets 11 = .ok (.iload_n 2, 1) := by decide +kernel
theorem dL_sets_12 : decode cL_sets 12 = .ok (.iadd, 1) := by decide +kernel
theorem dL_sets_13 : decode cL_sets 13 = .ok (.iload_n 3, 1) := by decide +kernel
theorem dL_sets_14 : decode cL_sets 14 = .ok (.iastore, 1) := by decide +kernel
theorem dL_sets_15 : decode cL_sets 15 = .ok (.aload_n 0, 1) := by decide +kernel
theorem dL_sets_16 : decode cL_sets 16 = .ok (.iload_n 2, 1) := by decide +kernel
theorem dL_sets_17 : decode cL_sets 17 = .ok (.iload_n 3, 1) := by decide +kernel
theorem dL_sets_18 : decode cL_sets 18 = .ok (.invokevirtual 33, 3) := by decide +kernel
theorem dL_sets_21 : decode cL_sets 21 = .ok (.iload 4, 2) := by decide +kernel
theorem dL_sets_23 : decode cL_sets 23 = .ok (.if_icmp .ne 33, 3) := by decide +kernel
theorem dL_sets_26 : decode cL_sets 26 = .ok (.aload_n 0, 1) := by decide +kernel
theorem dL_sets_27 : decode cL_sets 27 = .ok (.iload_n 2, 1) := by decide +kernel
theorem dL_sets_28 : decode cL_sets 28 = .ok (.sipush 201, 3) := by decide +kernel
theorem dL_sets_31 : decode cL_sets 31 = .ok (.invokevirtual 33, 3) := by decide +kernel
theorem dL_sets_34 : decode cL_sets 34 = .ok (.sipush (-1002), 3) := by decide +kernel
theorem dL_sets_37 : decode cL_sets 37 = .ok (.if_icmp .ne 19, 3) := by decide +kernel
theorem dL_sets_40 : decode cL_sets 40 = .ok (.aload_n 0, 1) := by decide +kernel
theorem dL_sets_41 : decode cL_sets 41 = .ok (.iconst 5, 1) := by decide +kernel
theorem dL_sets_42 : decode cL_sets 42 = .ok (.iconst 1, 1) := by decide +kernel
theorem dL_sets_43 : decode cL_sets 43 = .ok (.invokevirtual 33, 3) := by decide +kernel
theorem dL_sets_46 : decode cL_sets 46 = .ok (.sipush (-1002), 3) := by decide +kernel
theorem dL_sets_49 : decode cL_sets 49 = .ok (.if_icmp .ne 7, 3) := by decide +kernel
theorem dL_sets_52 : decode cL_sets 52 = .ok (.iconst 1, 1) := by decide +kernel
theorem dL_sets_53 : decode cL_sets 53 = .ok (.goto 4, 3) := by decide +kernel
theorem dL_sets_56 : decode cL_sets 56 = .ok (.iconst 0, 1) := by decide +kernel

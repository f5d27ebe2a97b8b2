theorem dX0_init_0 : decode cX0_init 0 = .ok (.aload_n 0, 1) := by decide +kernel
theorem dX0_init_1 : decode cX0_init 1 = .ok (.invokespecial 3, 3) := by decide +kernel
theorem dX0_init_4 : decode cX0_init 4 = .ok (.aload_n 0, 1) := by decide +kernel
theorem dX0_init_5 : decode cX0_init 5 = .ok (.bipush 6, 2) := by decide +kernel
theorem dX0_init_7 : decode cX0_init 7 = .ok (.anewarray 9, 3) := by decide +kernel
theorem dX0_init_10 : decode cX0_init 10 = .ok (.putfield 11, 3) := by decide +kernel
theorem dX0_init_13 : decode cX0_init 13 = .ok (.aload_n 0, 1) := by decide +kernel
theorem dX0_init_14 : decode cX0_init 14 = .ok (.iconst 0, 1) := by decide +kernel
theorem dX0_init_15 : decode cX0_init 15 = .ok (.putfield 17, 3) := by decide +kernel
theorem dX0_init_18 : decode cX0_init 18 = .ok (.aload_n 0, 1) := by decide +kernel
theorem dX0_init_19 : decode cX0_init 19 = .ok (.iconst 0, 1) := by decide +kernel
theorem dX0_init_20 : decode cX0_init 20 = .ok (.putfield 21, 3) := by decide +kernel
theorem dX0_init_23 : decode cX0_init 23 = .ok (.iconst 0, 1) := by decide +kernel
theorem dX0_init_24 : decode cX0_init 24 = .ok (.istore_n 1, 1) := by decide +kernel
theorem dX0_init_25 : decode cX0_init 25 = .ok (.iload_n 1, 1) := by decide +kernel
theorem dX0_init_26 : decode cX0_init 26 = .ok (.aload_n 0, 1) := by decide +kernel
theorem dX0_init_27 : decode cX0_init 27 = .ok (.getfield 11, 3) := by decide +kernel
theorem dX0_init_30 : decode cX0_init 30 = .ok (.arraylength, 1) := by decide +kernel
theorem dX0_init_31 : decode cX0_init 31 = .ok (.if_icmp .ge 22, 3) := by decide +kernel
theorem dX0_init_34 : decode cX0_init 34 = .ok (.aload_n 0, 1) := by decide +kernel
theorem dX0_init_35 : decode cX0_init 35 = .ok (.getfield 11, 3) := by decide +kernel
theorem dX0_init_38 : decode cX0_init 38 = .ok (.iload_n 1, 1) := by decide +kernel
theorem dX0_init_39 : decode cX0_init 39 = .ok (.new 9, 3) := by decide +kernel
theorem dX0_init_42 : decode cX0_init 42 = .ok (.dup, 1) := by decide +kernel
theorem dX0_init_43 : decode cX0_init 43 = .ok (.invokespecial 24, 3) := by decide +kernel
theorem dX0_init_46 : decode cX0_init 46 = .ok (.aastore, 1) := by decide +kernel
theorem dX0_init_47 : decode cX0_init 47 = .ok (.iinc 1 1, 3) := by decide +kernel
theorem dX0_init_50 : decode cX0_init 50 = .ok (.goto (-25), 3) := by decide +kernel
theorem dX0_init_53 : decode cX0_init 53 = .ok (.return_, 1) := by decide +kernel
theorem dX0_keep_0 : decode cX0_keep 0 = .ok (.aload_n 0, 1) := by decide +kernel
theorem dX0_keep_1 : decode cX0_keep 1 = .ok (.getfield 11, 3) := by decide +kernel
theorem dX0_keep_4 : decode cX0_keep 4 = .ok (.aload_n 0, 1) := by decide +kernel
theorem dX0_keep_5 : decode cX0_keep 5 = .ok (.getfield 17, 3) := by decide +kernel
theorem dX0_keep_8 : decode cX0_keep 8 = .ok (.bipush 6, 2) := by decide +kernel
theorem dX0_keep_10 : decode cX0_keep 10 = .ok (.invokestatic 25, 3) := by decide +kernel
theorem dX0_keep_13 : decode cX0_keep 13 = .ok (.aaload, 1) := by decide +kernel
theorem dX0_keep_14 : decode cX0_keep 14 = .ok (.aload_n 1, 1) := by decide +kernel
theorem dX0_keep_15 : decode cX0_keep 15 = .ok (.invokevirtual 31, 3) := by decide +kernel
theorem dX0_keep_18 : decode cX0_keep 18 = .ok (.aload_n 0, 1) := by decide +kernel
theorem dX0_keep_19 : decode cX0_keep 19 = .ok (.dup, 1) := by decide +kernel
theorem dX0_keep_20 : decode cX0_keep 20 = .ok (.getfield 17, 3) := by decide +kernel
theorem dX0_keep_23 : decode cX0_keep 23 = .ok (.iconst 1, 1) := by decide +kernel
theorem dX0_keep_24 : decode cX0_keep 24 = .ok (.iadd, 1) := by decide +kernel
theorem dX0_keep_25 : decode cX0_keep 25 = .ok (.putfield 17, 3) := by decide +kernel
theorem dX0_keep_28 : decode cX0_keep 28 = .ok (.aload_n 0, 1) := by decide +kernel
theorem dX0_keep_29 : decode cX0_keep 29 = .ok (.aload_n 0, 1) := by decide +kernel
theorem dX0_keep_30 : decode cX0_keep 30 = .ok (.getfield 21, 3) := by decide +kernel
theorem dX0_keep_33 : decode cX0_keep 33 = .ok (.iconst 1, 1) := by decide +kernel
theorem dX0_keep_34 : decode cX0_keep 34 = .ok (.iadd, 1) := by decide +kernel
theorem dX0_keep_35 : decode cX0_keep 35 = .ok (.bipush 6, 2) := by decide +kernel
theorem dX0_keep_37 : decode cX0_keep 37 = .ok (.invokestatic 35, 3) := by decide +kernel
theorem dX0_keep_40 : decode cX0_keep 40 = .ok (.putfield 21, 3) := by decide +kernel
theorem dX0_keep_43 : decode cX0_keep 43 = .ok (.return_, 1) := by decide +kernel
theorem dX0_restore_0 : decode cX0_restore 0 = .ok (.aload_n 0, 1) := by decide +kernel
theorem dX0_restore_1 : decode cX0_restore 1 = .ok (.dup, 1) := by decide +kernel
theorem dX0_restore_2 : decode cX0_restore 2 = .ok (.getfield 17, 3) := by decide +kernel
theorem dX0_restore_5 : decode cX0_restore 5 = .ok (.iconst 1, 1) := by decide +kernel
theorem dX0_restore_6 : decode cX0_restore 6 = .ok (.isub, 1) := by decide +kernel
theorem dX0_restore_7 : decode cX0_restore 7 = .ok (.putfield 17, 3) := by decide +kernel
theorem dX0_restore_10 : decode cX0_restore 10 = .ok (.aload_n 0, 1) := by decide +kernel
theorem dX0_restore_11 : decode cX0_restore 11 = .ok (.dup, 1) := by decide +kernel
theorem dX0_restore_12 : decode cX0_restore 12 = .ok (.getfield 21, 3) := by decide +kernel
theorem dX0_restore_15 : decode cX0_restore 15 = .ok (.iconst 1, 1) := by decide +kernel
theorem dX0_restore_16 : decode cX0_restore 16 = .ok (.isub, 1) := by decide +kernel
theorem dX0_restore_17 : decode cX0_restore 17 = .ok (.putfield 21, 3) := by decide +kernel
theorem dX0_restore_20 : decode cX0_restore 20 = .ok (.aload_n 1, 1) := by decide +kernel
theorem dX0_restore_21 : decode cX0_restore 21 = .ok (.aload_n 0, 1) := by decide +kernel
theorem dX0_restore_22 : decode cX0_restore 22 = .ok (.getfield 11, 3) := by decide +kernel
theorem dX0_restore_25 : decode cX0_restore 25 = .ok (.aload_n 0, 1) := by decide +kernel
theorem dX0_restore_26 : decode cX0_restore 26 = .ok (.getfield 17, 3) := by decide +kernel
theorem dX0_restore_29 : decode cX0_restore 29 = .ok (.bipush 6, 2) := by decide +kernel
theorem dX0_restore_31 : decode cX0_restore 31 = .ok (.invokestatic 25, 3) := by decide +kernel
theorem dX0_restore_34 : decode cX0_restore 34 = .ok (.aaload, 1) := by decide +kernel
theorem dX0_restore_35 : decode cX0_restore 35 = .ok (.invokevirtual 31, 3) := by decide +kernel
theorem dX0_restore_38 : decode cX0_restore 38 = .ok (.return_, 1) := by decide +kernel
theorem dX1_init_0 : decode cX1_init 0 = .ok (.aload_n 0, 1) := by decide +kernel
theorem dX1_init_1 : decode cX1_init 1 = .ok (.invokespecial 3, 3) := by decide +kernel
theorem dX1_init_4 : decode cX1_init 4 = .ok (.aload_n 0, 1) := by decide +kernel
theorem dX1_init_5 : decode cX1_init 5 = .ok (.iload_n 1, 1) := by decide +kernel
theorem dX1_init_6 : decode cX1_init 6 = .ok (.putfield 9, 3) := by decide +kernel
theorem dX1_init_9 : decode cX1_init 9 = .ok (.aload_n 0, 1) := by decide +kernel
theorem dX1_init_10 : decode cX1_init 10 = .ok (.iload_n 2, 1) := by decide +kernel
theorem dX1_init_11 : decode cX1_init 11 = .ok (.putfield 15, 3) := by decide +kernel
theorem dX1_init_14 : decode cX1_init 14 = .ok (.aload_n 0, 1) := by decide +kernel
theorem dX1_init_15 : decode cX1_init 15 = .ok (.iload_n 3, 1) := by decide +kernel
theorem dX1_init_16 : decode cX1_init 16 = .ok (.putfield 18, 3) := by decide +kernel
theorem dX1_init_19 : decode cX1_init 19 = .ok (.aload_n 0, 1) := by decide +kernel
theorem dX1_init_20 : decode cX1_init 20 = .ok (.iload 4, 2) := by decide +kernel
theorem dX1_init_22 : decode cX1_init 22 = .ok (.putfield 21, 3) := by decide +kernel
theorem dX1_init_25 : decode cX1_init 25 = .ok (.aload_n 0, 1) := by decide +kernel
theorem dX1_init_26 : decode cX1_init 26 = .ok (.iload 5, 2) := by decide +kernel
theorem dX1_init_28 : decode cX1_init 28 = .ok (.putfield 24, 3) := by decide +kernel
theorem dX1_init_31 : decode cX1_init 31 = .ok (.return_, 1) := by decide +kernel
theorem dX1_part_0 : decode cX1_part 0 = .ok (.iload_n 1, 1) := by decide +kernel
theorem dX1_part_1 : decode cX1_part 1 = .ok (.tableswitch 60 0 4 #[35, 40, 45, 50, 55], 35) := by decide +kernel
theorem dX1_part_36 : decode cX1_part 36 = .ok (.aload_n 0, 1) := by decide +kernel
theorem dX1_part_37 : decode cX1_part 37 = .ok (.getfield 9, 3) := by decide +kernel
theorem dX1_part_40 : decode cX1_part 40 = .ok (.ireturn, 1) := by decide +kernel
theorem dX1_part_41 : decode cX1_part 41 = .ok (.aload_n 0, 1) := by decide +kernel
theorem dX1_part_42 : decode cX1_part 42 = .ok (.getfield 15, 3) := by decide +kernel
theorem dX1_part_45 : decode cX1_part 45 = .ok (.ireturn, 1) := by decide +kernel
theorem dX1_part_46 : decode cX1_part 46 = .ok (.aload_n 0, 1) := by decide +kernel
theorem dX1_part_47 : decode cX1_part 47 = .ok (.getfield 18, 3) := by decide +kernel
theorem dX1_part_50 : decode cX1_part 50 = .ok (.ireturn, 1) := by decide +kernel
theorem dX1_part_51 : decode cX1_part 51 = .ok (.aload_n 0, 1) := by decide +kernel
theorem dX1_part_52 : decode cX1_part 52 = .ok (.getfield 21, 3) := by decide +kernel
theorem dX1_part_55 : decode cX1_part 55 = .ok (.ireturn, 1) := by decide +kernel
theorem dX1_part_56 : decode cX1_part 56 = .ok (.aload_n 0, 1) := by decide +kernel
theorem dX1_part_57 : decode cX1_part 57 = .ok (.getfield 24, 3) := by decide +kernel
theorem dX1_part_60 : decode cX1_part 60 = .ok (.ireturn, 1) := by decide +kernel
theorem dX1_part_61 : decode cX1_part 61 = .ok (.sipush (-1001), 3) := by decide +kernel
theorem dX1_part_64 : decode cX1_part 64 = .ok (.ireturn, 1) := by decide +kernel
theorem dX1_isDue_0 : decode cX1_isDue 0 = .ok (.aload_n 0, 1) := by decide +kernel
theorem dX1_isDue_1 : decode cX1_isDue 1 = .ok (.getfield 15, 3) := by decide +kernel
theorem dX1_isDue_4 : decode cX1_isDue 4 = .ok (.iconst 2, 1) := by decide +kernel
theorem dX1_isDue_5 : decode cX1_isDue 5 = .ok (.if_icmp .ne 20, 3) := by decide +kernel
theorem dX1_isDue_8 : decode cX1_isDue 8 = .ok (.aload_n 1, 1) := by decide +kernel
theorem dX1_isDue_9 : decode cX1_isDue 9 = .ok (.getfield 27, 3) := by decide +kernel
theorem dX1_isDue_12 : decode cX1_isDue 12 = .ok (.aload_n 0, 1) := by decide +kernel
theorem dX1_isDue_13 : decode cX1_isDue 13 = .ok (.getfield 9, 3) := by decide +kernel
theorem dX1_isDue_16 : decode cX1_isDue 16 = .ok (.if_icmp .lt 7, 3) := by decide +kernel
theorem dX1_isDue_19 : decode cX1_isDue 19 = .ok (.iconst 1, 1) := by decide +kernel
theorem dX1_isDue_20 : decode cX1_isDue 20 = .ok (.goto 4, 3) := by decide +kernel
theorem dX1_isDue_23 : decode cX1_isDue 23 = .ok (.iconst 0, 1) := by decide +kernel
theorem dX1_isDue_24 : decode cX1_isDue 24 = .ok (.ireturn, 1) := by decide +kernel
theorem dX1_isDue_25 : decode cX1_isDue 25 = .ok (.aload_n 1, 1) := by decide +kernel
theorem dX1_isDue_26 : decode cX1_isDue 26 = .ok (.aload_n 0, 1) := by decide +kernel
theorem dX1_isDue_27 : decode cX1_isDue 27 = .ok (.getfield 18, 3) := by decide +kernel
theorem dX1_isDue_30 : decode cX1_isDue 30 = .ok (.aload_n 0, 1) := by decide +kernel
theorem dX1_isDue_31 : decode cX1_isDue 31 = .ok (.getfield 21, 3) := by decide +kernel
theorem dX1_isDue_34 : decode cX1_isDue 34 = .ok (.invokevirtual 32, 3) := by decide +kernel
theorem dX1_isDue_37 : decode cX1_isDue 37 = .ok (.ifCond .eq 22, 3) := by decide +kernel
theorem dX1_isDue_40 : decode cX1_isDue 40 = .ok (.aload_n 1, 1) := by decide +kernel
theorem dX1_isDue_41 : decode cX1_isDue 41 = .ok (.aload_n 0, 1) := by decide +kernel
theorem dX1_isDue_42 : decode cX1_isDue 42 = .ok (.getfield 18, 3) := by decide +kernel
theorem dX1_isDue_45 : decode cX1_isDue 45 = .ok (.invokevirtual 36, 3) := by decide +kernel
theorem dX1_isDue_48 : decode cX1_isDue 48 = .ok (.aload_n 0, 1) := by decide +kernel
theorem dX1_isDue_49 : decode cX1_isDue 49 = .ok (.getfield 9, 3) := by decide +kernel
theorem dX1_isDue_52 : decode cX1_isDue 52 = .ok (.if_icmp .lt 7, 3) := by decide +kernel
theorem dX1_isDue_55 : decode cX1_isDue 55 = .ok (.iconst 1, 1) := by decide +kernel
theorem dX1_isDue_56 : decode cX1_isDue 56 = .ok (.goto 4, 3) := by decide +kernel
theorem dX1_isDue_59 : decode cX1_isDue 59 = .ok (.iconst 0, 1) := by decide +kernel
theorem dX1_isDue_60 : decode cX1_isDue 60 = .ok (.ireturn, 1) := by decide +kernel
theorem dX1_carryOut_0 : decode cX1_carryOut 0 = .ok (.aload_n 0, 1) := by decide +kernel
theorem dX1_carryOut_1 : decode cX1_carryOut 1 = .ok (.getfield 15, 3) := by decide +kernel
theorem dX1_carryOut_4 : decode cX1_carryOut 4 = .ok (.iconst 2, 1) := by decide +kernel
theorem dX1_carryOut_5 : decode cX1_carryOut 5 = .ok (.if_icmp .ne 14, 3) := by decide +kernel
theorem dX1_carryOut_8 : decode cX1_carryOut 8 = .ok (.aload_n 1, 1) := by decide +kernel
theorem dX1_carryOut_9 : decode cX1_carryOut 9 = .ok (.aload_n 0, 1) := by decide +kernel
theorem dX1_carryOut_10 : decode cX1_carryOut 10 = .ok (.getfield 24, 3) := by decide +kernel
theorem dX1_carryOut_13 : decode cX1_carryOut 13 = .ok (.putfield 40, 3) := by decide +kernel
theorem dX1_carryOut_16 : decode cX1_carryOut 16 = .ok (.goto 42, 3) := by decide +kernel
theorem dX1_carryOut_19 : decode cX1_carryOut 19 = .ok (.aload_n 0, 1) := by decide +kernel
theorem dX1_carryOut_20 : decode cX1_carryOut 20 = .ok (.getfield 15, 3) := by decide +kernel
theorem dX1_carryOut_23 : decode cX1_carryOut 23 = .ok (.ifCond .ne 22, 3) := by decide +kernel
theorem dX1_carryOut_26 : decode cX1_carryOut 26 = .ok (.aload_n 1, 1) := by decide +kernel
theorem dX1_carryOut_27 : decode cX1_carryOut 27 = .ok (.aload_n 0, 1) := by decide +kernel
theorem dX1_carryOut_28 : decode cX1_carryOut 28 = .ok (.getfield 18, 3) := by decide +kernel
theorem dX1_carryOut_31 : decode cX1_carryOut 31 = .ok (.aload_n 0, 1) := by decide +kernel
theorem dX1_carryOut_32 : decode cX1_carryOut 32 = .ok (.getfield 21, 3) := by decide +kernel
theorem dX1_carryOut_35 : decode cX1_carryOut 35 = .ok (.aload_n 0, 1) := by decide +kernel
theorem dX1_carryOut_36 : decode cX1_carryOut 36 = .ok (.getfield 24, 3) := by decide +kernel
theorem dX1_carryOut_39 : decode cX1_carryOut 39 = .ok (.invokevirtual 43, 3) := by decide +kernel
theorem dX1_carryOut_42 : decode cX1_carryOut 42 = .ok (.goto 16, 3) := by decide +kernel
theorem dX1_carryOut_45 : decode cX1_carryOut 45 = .ok (.aload_n 1, 1) := by decide +kernel
theorem dX1_carryOut_46 : decode cX1_carryOut 46 = .ok (.aload_n 0, 1) := by decide +kernel
theorem dX1_carryOut_47 : decode cX1_carryOut 47 = .ok (.getfield 18, 3) := by decide +kernel
theorem dX1_carryOut_50 : decode cX1_carryOut 50 = .ok (.aload_n 0, 1) := by decide +kernel
theorem dX1_carryOut_51 : decode cX1_carryOut 51 = .ok (.getfield 21, 3) := by decide +kernel
theorem dX1_carryOut_54 : decode cX1_carryOut 54 = .ok (.iload_n 2, 1) := by decide +kernel
theorem dX1_carryOut_55 : decode cX1_carryOut 55 = .ok (.invokevirtual 47, 3) := by decide +kernel
theorem dX1_carryOut_58 : decode cX1_carryOut 58 = .ok (.return_, 1) := by decide +kernel
theorem dX2_init_0 : decode cX2_init 0 = .ok (.aload_n 0, 1) := by decide +kernel
theorem dX2_init_1 : decode cX2_init 1 = .ok (.invokespecial 3, 3) := by decide +kernel
theorem dX2_init_4 : decode cX2_init 4 = .ok (.aload_n 0, 1) := by decide +kernel
theorem dX2_init_5 : decode cX2_init 5 = .ok (.iconst 5, 1) := by decide +kernel
theorem dX2_init_6 : decode cX2_init 6 = .ok (.newarray .int, 2) := by decide +kernel
theorem dX2_init_8 : decode cX2_init 8 = .ok (.dup, 1) := by decide +kernel
theorem dX2_init_9 : decode cX2_init 9 = .ok (.iconst 0, 1) := by decide +kernel
theorem dX2_init_10 : decode cX2_init 10 = .ok (.iconst 4, 1) := by decide +kernel
theorem dX2_init_11 : decode cX2_init 11 = .ok (.iastore, 1) := by decide +kernel
theorem dX2_init_12 : decode cX2_init 12 = .ok (.dup, 1) := by decide +kernel
theorem dX2_init_13 : decode cX2_init 13 = .ok (.iconst 1, 1) := by decide +kernel
theorem dX2_init_14 : decode cX2_init 14 = .ok (.bipush 12, 2) := by decide +kernel
theorem dX2_init_16 : decode cX2_init 16 = .ok (.iastore, 1) := by decide +kernel
theorem dX2_init_17 : decode cX2_init 17 = .ok (.dup, 1) := by decide +kernel
theorem dX2_init_18 : decode cX2_init 18 = .ok (.iconst 2, 1) := by decide +kernel
theorem dX2_init_19 : decode cX2_init 19 = .ok (.iconst 1, 1) := by decide +kernel
theorem dX2_init_20 : decode cX2_init 20 = .ok (.iastore, 1) := by decide +kernel
theorem dX2_init_21 : decode cX2_init 21 = .ok (.dup, 1) := by decide +kernel
theorem dX2_init_22 : decode cX2_init 22 = .ok (.iconst 3, 1) := by decide +kernel
theorem dX2_init_23 : decode cX2_init 23 = .ok (.bipush 100, 2) := by decide +kernel
theorem dX2_init_25 : decode cX2_init 25 = .ok (.iastore, 1) := by decide +kernel
theorem dX2_init_26 : decode cX2_init 26 = .ok (.dup, 1) := by decide +kernel
theorem dX2_init_27 : decode cX2_init 27 = .ok (.iconst 4, 1) := by decide +kernel
theorem dX2_init_28 : decode cX2_init 28 = .ok (.bipush 8, 2) := by decide +kernel
theorem dX2_init_30 : decode cX2_init 30 = .ok (.iastore, 1) := by decide +kernel
theorem dX2_init_31 : decode cX2_init 31 = .ok (.putfield 9, 3) := by decide +kernel
theorem dX2_init_34 : decode cX2_init 34 = .ok (.aload_n 0, 1) := by decide +kernel
theorem dX2_init_35 : decode cX2_init 35 = .ok (.new 15, 3) := by decide +kernel
theorem dX2_init_38 : decode cX2_init 38 = .ok (.dup, 1) := by decide +kernel
theorem dX2_init_39 : decode cX2_init 39 = .ok (.invokespecial 17, 3) := by decide +kernel
theorem dX2_init_42 : decode cX2_init 42 = .ok (.putfield 18, 3) := by decide +kernel
theorem dX2_init_45 : decode cX2_init 45 = .ok (.aload_n 0, 1) := by decide +kernel
theorem dX2_init_46 : decode cX2_init 46 = .ok (.new 22, 3) := by decide +kernel
theorem dX2_init_49 : decode cX2_init 49 = .ok (.dup, 1) := by decide +kernel
theorem dX2_init_50 : decode cX2_init 50 = .ok (.invokespecial 24, 3) := by decide +kernel
theorem dX2_init_53 : decode cX2_init 53 = .ok (.putfield 25, 3) := by decide +kernel
theorem dX2_init_56 : decode cX2_init 56 = .ok (.aload_n 0, 1) := by decide +kernel
theorem dX2_init_57 : decode cX2_init 57 = .ok (.new 29, 3) := by decide +kernel
theorem dX2_init_60 : decode cX2_init 60 = .ok (.dup, 1) := by decide +kernel
theorem dX2_init_61 : decode cX2_init 61 = .ok (.invokespecial 31, 3) := by decide +kernel
theorem dX2_init_64 : decode cX2_init 64 = .ok (.putfield 32, 3) := by decide +kernel
theorem dX2_init_67 : decode cX2_init 67 = .ok (.aload_n 0, 1) := by decide +kernel
theorem dX2_init_68 : decode cX2_init 68 = .ok (.iconst 0, 1) := by decide +kernel
theorem dX2_init_69 : decode cX2_init 69 = .ok (.putfield 36, 3) := by decide +kernel
theorem dX2_init_72 : decode cX2_init 72 = .ok (.aload_n 0, 1) := by decide +kernel
theorem dX2_init_73 : decode cX2_init 73 = .ok (.iconst 0, 1) := by decide +kernel
theorem dX2_init_74 : decode cX2_init 74 = .ok (.putfield 40, 3) := by decide +kernel
theorem dX2_init_77 : decode cX2_init 77 = .ok (.aload_n 0, 1) := by decide +kernel
theorem dX2_init_78 : decode cX2_init 78 = .ok (.iconst 0, 1) := by decide +kernel
theorem dX2_init_79 : decode cX2_init 79 = .ok (.putfield 43, 3) := by decide +kernel
theorem dX2_init_82 : decode cX2_init 82 = .ok (.aload_n 0, 1) := by decide +kernel
theorem dX2_init_83 : decode cX2_init 83 = .ok (.iconst 0, 1) := by decide +kernel
theorem dX2_init_84 : decode cX2_init 84 = .ok (.putfield 46, 3) := by decide +kernel
theorem dX2_init_87 : decode cX2_init 87 = .ok (.aload_n 0, 1) := by decide +kernel
theorem dX2_init_88 : decode cX2_init 88 = .ok (.iconst 0, 1) := by decide +kernel
theorem dX2_init_89 : decode cX2_init 89 = .ok (.putfield 49, 3) := by decide +kernel
theorem dX2_init_92 : decode cX2_init 92 = .ok (.return_, 1) := by decide +kernel
theorem dX2_copyFrom_0 : decode cX2_copyFrom 0 = .ok (.aload_n 1, 1) := by decide +kernel
theorem dX2_copyFrom_1 : decode cX2_copyFrom 1 = .ok (.getfield 9, 3) := by decide +kernel
theorem dX2_copyFrom_4 : decode cX2_copyFrom 4 = .ok (.aload_n 0, 1) := by decide +kernel
theorem dX2_copyFrom_5 : decode cX2_copyFrom 5 = .ok (.getfield 9, 3) := by decide +kernel
theorem dX2_copyFrom_8 : decode cX2_copyFrom 8 = .ok (.invokestatic 52, 3) := by decide +kernel
theorem dX2_copyFrom_11 : decode cX2_copyFrom 11 = .ok (.aload_n 1, 1) := by decide +kernel
theorem dX2_copyFrom_12 : decode cX2_copyFrom 12 = .ok (.getfield 18, 3) := by decide +kernel
theorem dX2_copyFrom_15 : decode cX2_copyFrom 15 = .ok (.getfield 56, 3) := by decide +kernel
theorem dX2_copyFrom_18 : decode cX2_copyFrom 18 = .ok (.aload_n 0, 1) := by decide +kernel
theorem dX2_copyFrom_19 : decode cX2_copyFrom 19 = .ok (.getfield 18, 3) := by decide +kernel
theorem dX2_copyFrom_22 : decode cX2_copyFrom 22 = .ok (.getfield 56, 3) := by decide +kernel
theorem dX2_copyFrom_25 : decode cX2_copyFrom 25 = .ok (.invokestatic 52, 3) := by decide +kernel
theorem dX2_copyFrom_28 : decode cX2_copyFrom 28 = .ok (.aload_n 0, 1) := by decide +kernel
theorem dX2_copyFrom_29 : decode cX2_copyFrom 29 = .ok (.getfield 25, 3) := by decide +kernel
theorem dX2_copyFrom_32 : decode cX2_copyFrom 32 = .ok (.aload_n 1, 1) := by decide +kernel
theorem dX2_copyFrom_33 : decode cX2_copyFrom 33 = .ok (.getfield 25, 3) := by decide +kernel
theorem dX2_copyFrom_36 : decode cX2_copyFrom 36 = .ok (.invokevirtual 59, 3) := by decide +kernel
theorem dX2_copyFrom_39 : decode cX2_copyFrom 39 = .ok (.aload_n 0, 1) := by decide +kernel
theorem dX2_copyFrom_40 : decode cX2_copyFrom 40 = .ok (.getfield 32, 3) := by decide +kernel
theorem dX2_copyFrom_43 : decode cX2_copyFrom 43 = .ok (.invokevirtual 63, 3) := by decide +kernel
theorem dX2_copyFrom_46 : decode cX2_copyFrom 46 = .ok (.aload_n 1, 1) := by decide +kernel
theorem dX2_copyFrom_47 : decode cX2_copyFrom 47 = .ok (.getfield 32, 3) := by decide +kernel
theorem dX2_copyFrom_50 : decode cX2_copyFrom 50 = .ok (.aload_n 0, 1) := by decide +kernel
theorem dX2_copyFrom_51 : decode cX2_copyFrom 51 = .ok (.getfield 32, 3) := by decide +kernel
theorem dX2_copyFrom_54 : decode cX2_copyFrom 54 = .ok (.invokestatic 66, 3) := by decide +kernel
theorem dX2_copyFrom_57 : decode cX2_copyFrom 57 = .ok (.aload_n 0, 1) := by decide +kernel
theorem dX2_copyFrom_58 : decode cX2_copyFrom 58 = .ok (.aload_n 1, 1) := by decide +kernel
theorem dX2_copyFrom_59 : decode cX2_copyFrom 59 = .ok (.getfield 36, 3) := by decide +kernel
theorem dX2_copyFrom_62 : decode cX2_copyFrom 62 = .ok (.putfield 36, 3) := by decide +kernel
theorem dX2_copyFrom_65 : decode cX2_copyFrom 65 = .ok (.aload_n 0, 1) := by decide +kernel
theorem dX2_copyFrom_66 : decode cX2_copyFrom 66 = .ok (.aload_n 1, 1) := by decide +kernel
theorem dX2_copyFrom_67 : decode cX2_copyFrom 67 = .ok (.getfield 40, 3) := by decide +kernel
theorem dX2_copyFrom_70 : decode cX2_copyFrom 70 = .ok (.putfield 40, 3) := by decide +kernel
theorem dX2_copyFrom_73 : decode cX2_copyFrom 73 = .ok (.aload_n 0, 1) := by decide +kernel
theorem dX2_copyFrom_74 : decode cX2_copyFrom 74 = .ok (.aload_n 1, 1) := by decide +kernel
theorem dX2_copyFrom_75 : decode cX2_copyFrom 75 = .ok (.getfield 43, 3) := by decide +kernel
theorem dX2_copyFrom_78 : decode cX2_copyFrom 78 = .ok (.putfield 43, 3) := by decide +kernel
theorem dX2_copyFrom_81 : decode cX2_copyFrom 81 = .ok (.aload_n 0, 1) := by decide +kernel
theorem dX2_copyFrom_82 : decode cX2_copyFrom 82 = .ok (.aload_n 1, 1) := by decide +kernel
theorem dX2_copyFrom_83 : decode cX2_copyFrom 83 = .ok (.getfield 46, 3) := by decide +kernel
theorem dX2_copyFrom_86 : decode cX2_copyFrom 86 = .ok (.putfield 46, 3) := by decide +kernel
theorem dX2_copyFrom_89 : decode cX2_copyFrom 89 = .ok (.aload_n 0, 1) := by decide +kernel
theorem dX2_copyFrom_90 : decode cX2_copyFrom 90 = .ok (.aload_n 1, 1) := by decide +kernel
theorem dX2_copyFrom_91 : decode cX2_copyFrom 91 = .ok (.getfield 49, 3) := by decide +kernel
theorem dX2_copyFrom_94 : decode cX2_copyFrom 94 = .ok (.putfield 49, 3) := by decide +kernel
theorem dX2_copyFrom_97 : decode cX2_copyFrom 97 = .ok (.return_, 1) := by decide +kernel
theorem dX2_passSecond_0 : decode cX2_passSecond 0 = .ok (.aload_n 0, 1) := by decide +kernel
theorem dX2_passSecond_1 : decode cX2_passSecond 1 = .ok (.getfield 25, 3) := by decide +kernel
theorem dX2_passSecond_4 : decode cX2_passSecond 4 = .ok (.invokevirtual 70, 3) := by decide +kernel
theorem dX2_passSecond_7 : decode cX2_passSecond 7 = .ok (.aload_n 0, 1) := by decide +kernel
theorem dX2_passSecond_8 : decode cX2_passSecond 8 = .ok (.invokevirtual 73, 3) := by decide +kernel
theorem dX2_passSecond_11 : decode cX2_passSecond 11 = .ok (.aload_n 0, 1) := by decide +kernel
theorem dX2_passSecond_12 : decode cX2_passSecond 12 = .ok (.invokevirtual 76, 3) := by decide +kernel
theorem dX2_passSecond_15 : decode cX2_passSecond 15 = .ok (.aload_n 0, 1) := by decide +kernel
theorem dX2_passSecond_16 : decode cX2_passSecond 16 = .ok (.getfield 18, 3) := by decide +kernel
theorem dX2_passSecond_19 : decode cX2_passSecond 19 = .ok (.aload_n 0, 1) := by decide +kernel
theorem dX2_passSecond_20 : decode cX2_passSecond 20 = .ok (.getfield 9, 3) := by decide +kernel
theorem dX2_passSecond_23 : decode cX2_passSecond 23 = .ok (.iconst 0, 1) := by decide +kernel
theorem dX2_passSecond_24 : decode cX2_passSecond 24 = .ok (.iaload, 1) := by decide +kernel
theorem dX2_passSecond_25 : decode cX2_passSecond 25 = .ok (.invokevirtual 79, 3) := by decide +kernel
theorem dX2_passSecond_28 : decode cX2_passSecond 28 = .ok (.aload_n 0, 1) := by decide +kernel
theorem dX2_passSecond_29 : decode cX2_passSecond 29 = .ok (.dup, 1) := by decide +kernel
theorem dX2_passSecond_30 : decode cX2_passSecond 30 = .ok (.getfield 46, 3) := by decide +kernel
theorem dX2_passSecond_33 : decode cX2_passSecond 33 = .ok (.aload_n 0, 1) := by decide +kernel
theorem dX2_passSecond_34 : decode cX2_passSecond 34 = .ok (.getfield 18, 3) := by decide +kernel
theorem dX2_passSecond_37 : decode cX2_passSecond 37 = .ok (.aload_n 0, 1) := by decide +kernel
theorem dX2_passSecond_38 : decode cX2_passSecond 38 = .ok (.getfield 9, 3) := by decide +kernel
theorem dX2_passSecond_41 : decode cX2_passSecond 41 = .ok (.iconst 1, 1) := by decide +kernel
theorem dX2_passSecond_42 : decode cX2_passSecond 42 = .ok (.iaload, 1) := by decide +kernel
theorem dX2_passSecond_43 : decode cX2_passSecond 43 = .ok (.invokevirtual 83, 3) := by decide +kernel
theorem dX2_passSecond_46 : decode cX2_passSecond 46 = .ok (.iadd, 1) := by decide +kernel
theorem dX2_passSecond_47 : decode cX2_passSecond 47 = .ok (.putfield 46, 3) := by decide +kernel
theorem dX2_passSecond_50 : decode cX2_passSecond 50 = .ok (.aload_n 0, 1) := by decide +kernel
theorem dX2_passSecond_51 : decode cX2_passSecond 51 = .ok (.dup, 1) := by decide +kernel
theorem dX2_passSecond_52 : decode cX2_passSecond 52 = .ok (.getfield 40, 3) := by decide +kernel
theorem dX2_passSecond_55 : decode cX2_passSecond 55 = .ok (.aload_n 0, 1) := by decide +kernel
theorem dX2_passSecond_56 : decode cX2_passSecond 56 = .ok (.getfield 25, 3) := by decide +kernel
theorem dX2_passSecond_59 : decode cX2_passSecond 59 = .ok (.aload_n 0, 1) := by decide +kernel
theorem dX2_passSecond_60 : decode cX2_passSecond 60 = .ok (.getfield 9, 3) := by decide +kernel
theorem dX2_passSecond_63 : decode cX2_passSecond 63 = .ok (.iconst 3, 1) := by decide +kernel
theorem dX2_passSecond_64 : decode cX2_passSecond 64 = .ok (.iaload, 1) := by decide +kernel
theorem dX2_passSecond_65 : decode cX2_passSecond 65 = .ok (.invokevirtual 87, 3) := by decide +kernel
theorem dX2_passSecond_68 : decode cX2_passSecond 68 = .ok (.iadd, 1) := by decide +kernel
theorem dX2_passSecond_69 : decode cX2_passSecond 69 = .ok (.putfield 40, 3) := by decide +kernel
theorem dX2_passSecond_72 : decode cX2_passSecond 72 = .ok (.aload_n 0, 1) := by decide +kernel
theorem dX2_passSecond_73 : decode cX2_passSecond 73 = .ok (.dup, 1) := by decide +kernel
theorem dX2_passSecond_74 : decode cX2_passSecond 74 = .ok (.getfield 36, 3) := by decide +kernel
theorem dX2_passSecond_77 : decode cX2_passSecond 77 = .ok (.iconst 1, 1) := by decide +kernel
theorem dX2_passSecond_78 : decode cX2_passSecond 78 = .ok (.iadd, 1) := by decide +kernel
theorem dX2_passSecond_79 : decode cX2_passSecond 79 = .ok (.putfield 36, 3) := by decide +kernel
theorem dX2_passSecond_82 : decode cX2_passSecond 82 = .ok (.return_, 1) := by decide +kernel
theorem dX2_passSecondOfTrain_0 : decode cX2_passSecondOfTrain 0 = .ok (.aload_n 0, 1) := by decide +kernel
theorem dX2_passSecondOfTrain_1 : decode cX2_passSecondOfTrain 1 = .ok (.getfield 25, 3) := by decide +kernel
theorem dX2_passSecondOfTrain_4 : decode cX2_passSecondOfTrain 4 = .ok (.invokevirtual 70, 3) := by decide +kernel
theorem dX2_passSecondOfTrain_7 : decode cX2_passSecondOfTrain 7 = .ok (.aload_n 0, 1) := by decide +kernel
theorem dX2_passSecondOfTrain_8 : decode cX2_passSecondOfTrain 8 = .ok (.invokevirtual 73, 3) := by decide +kernel
theorem dX2_passSecondOfTrain_11 : decode cX2_passSecondOfTrain 11 = .ok (.aload_n 0, 1) := by decide +kernel
theorem dX2_passSecondOfTrain_12 : decode cX2_passSecondOfTrain 12 = .ok (.invokevirtual 76, 3) := by decide +kernel
theorem dX2_passSecondOfTrain_15 : decode cX2_passSecondOfTrain 15 = .ok (.aload_n 0, 1) := by decide +kernel
theorem dX2_passSecondOfTrain_16 : decode cX2_passSecondOfTrain 16 = .ok (.dup, 1) := by decide +kernel
theorem dX2_passSecondOfTrain_17 : decode cX2_passSecondOfTrain 17 = .ok (.getfield 40, 3) := by decide +kernel
theorem dX2_passSecondOfTrain_20 : decode cX2_passSecondOfTrain 20 = .ok (.aload_n 0, 1) := by decide +kernel
theorem dX2_passSecondOfTrain_21 : decode cX2_passSecondOfTrain 21 = .ok (.getfield 25, 3) := by decide +kernel
theorem dX2_passSecondOfTrain_24 : decode cX2_passSecondOfTrain 24 = .ok (.aload_n 0, 1) := by decide +kernel
theorem dX2_passSecondOfTrain_25 : decode cX2_passSecondOfTrain 25 = .ok (.getfield 9, 3) := by decide +kernel
theorem dX2_passSecondOfTrain_28 : decode cX2_passSecondOfTrain 28 = .ok (.iconst 3, 1) := by decide +kernel
theorem dX2_passSecondOfTrain_29 : decode cX2_passSecondOfTrain 29 = .ok (.iaload, 1) := by decide +kernel
theorem dX2_passSecondOfTrain_30 : decode cX2_passSecondOfTrain 30 = .ok (.invokevirtual 87, 3) := by decide +kernel
theorem dX2_passSecondOfTrain_33 : decode cX2_passSecondOfTrain 33 = .ok (.iadd, 1) := by decide +kernel
theorem dX2_passSecondOfTrain_34 : decode cX2_passSecondOfTrain 34 = .ok (.putfield 40, 3) := by decide +kernel
theorem dX2_passSecondOfTrain_37 : decode cX2_passSecondOfTrain 37 = .ok (.return_, 1) := by decide +kernel
theorem dX2_unload_0 : decode cX2_unload 0 = .ok (.iconst 0, 1) := by decide +kernel
theorem dX2_unload_1 : decode cX2_unload 1 = .ok (.istore_n 1, 1) := by decide +kernel
theorem dX2_unload_2 : decode cX2_unload 2 = .ok (.iload_n 1, 1) := by decide +kernel
theorem dX2_unload_3 : decode cX2_unload 3 = .ok (.aload_n 0, 1) := by decide +kernel
theorem dX2_unload_4 : decode cX2_unload 4 = .ok (.getfield 25, 3) := by decide +kernel
theorem dX2_unload_7 : decode cX2_unload 7 = .ok (.getfield 90, 3) := by decide +kernel
theorem dX2_unload_10 : decode cX2_unload 10 = .ok (.if_icmp .ge 44, 3) := by decide +kernel
theorem dX2_unload_13 : decode cX2_unload 13 = .ok (.iconst 0, 1) := by decide +kernel
theorem dX2_unload_14 : decode cX2_unload 14 = .ok (.istore_n 2, 1) := by decide +kernel
theorem dX2_unload_15 : decode cX2_unload 15 = .ok (.iload_n 2, 1) := by decide +kernel
theorem dX2_unload_16 : decode cX2_unload 16 = .ok (.iconst 3, 1) := by decide +kernel
theorem dX2_unload_17 : decode cX2_unload 17 = .ok (.if_icmp .ge 31, 3) := by decide +kernel
theorem dX2_unload_20 : decode cX2_unload 20 = .ok (.aload_n 0, 1) := by decide +kernel
theorem dX2_unload_21 : decode cX2_unload 21 = .ok (.aload_n 0, 1) := by decide +kernel
theorem dX2_unload_22 : decode cX2_unload 22 = .ok (.getfield 25, 3) := by decide +kernel
theorem dX2_unload_25 : decode cX2_unload 25 = .ok (.iload_n 1, 1) := by decide +kernel
theorem dX2_unload_26 : decode cX2_unload 26 = .ok (.invokevirtual 93, 3) := by decide +kernel
theorem dX2_unload_29 : decode cX2_unload 29 = .ok (.iload_n 2, 1) := by decide +kernel
theorem dX2_unload_30 : decode cX2_unload 30 = .ok (.aload_n 0, 1) := by decide +kernel
theorem dX2_unload_31 : decode cX2_unload 31 = .ok (.getfield 25, 3) := by decide +kernel
theorem dX2_unload_34 : decode cX2_unload 34 = .ok (.iload_n 1, 1) := by decide +kernel
theorem dX2_unload_35 : decode cX2_unload 35 = .ok (.iload_n 2, 1) := by decide +kernel
theorem dX2_unload_36 : decode cX2_unload 36 = .ok (.invokevirtual 96, 3) := by decide +kernel
theorem dX2_unload_39 : decode cX2_unload 39 = .ok (.invokevirtual 100, 3) := by decide +kernel
theorem dX2_unload_42 : decode cX2_unload 42 = .ok (.iinc 2 1, 3) := by decide +kernel
theorem dX2_unload_45 : decode cX2_unload 45 = .ok (.goto (-30), 3) := by decide +kernel
theorem dX2_unload_48 : decode cX2_unload 48 = .ok (.iinc 1 1, 3) := by decide +kernel
theorem dX2_unload_51 : decode cX2_unload 51 = .ok (.goto (-49), 3) := by decide +kernel
theorem dX2_unload_54 : decode cX2_unload 54 = .ok (.return_, 1) := by decide +kernel
theorem dX2_land_0 : decode cX2_land 0 = .ok (.iload_n 1, 1) := by decide +kernel
theorem dX2_land_1 : decode cX2_land 1 = .ok (.iload_n 2, 1) := by decide +kernel
theorem dX2_land_2 : decode cX2_land 2 = .ok (.invokestatic 104, 3) := by decide +kernel
theorem dX2_land_5 : decode cX2_land 5 = .ok (.ifCond .eq 16, 3) := by decide +kernel
theorem dX2_land_8 : decode cX2_land 8 = .ok (.aload_n 0, 1) := by decide +kernel
theorem dX2_land_9 : decode cX2_land 9 = .ok (.getfield 18, 3) := by decide +kernel
theorem dX2_land_12 : decode cX2_land 12 = .ok (.iload_n 1, 1) := by decide +kernel
theorem dX2_land_13 : decode cX2_land 13 = .ok (.iload_n 2, 1) := by decide +kernel
theorem dX2_land_14 : decode cX2_land 14 = .ok (.iload_n 3, 1) := by decide +kernel
theorem dX2_land_15 : decode cX2_land 15 = .ok (.invokevirtual 108, 3) := by decide +kernel
theorem dX2_land_18 : decode cX2_land 18 = .ok (.goto 13, 3) := by decide +kernel
theorem dX2_land_21 : decode cX2_land 21 = .ok (.aload_n 0, 1) := by decide +kernel
theorem dX2_land_22 : decode cX2_land 22 = .ok (.dup, 1) := by decide +kernel
theorem dX2_land_23 : decode cX2_land 23 = .ok (.getfield 46, 3) := by decide +kernel
theorem dX2_land_26 : decode cX2_land 26 = .ok (.iload_n 3, 1) := by decide +kernel
theorem dX2_land_27 : decode cX2_land 27 = .ok (.iadd, 1) := by decide +kernel
theorem dX2_land_28 : decode cX2_land 28 = .ok (.putfield 46, 3) := by decide +kernel
theorem dX2_land_31 : decode cX2_land 31 = .ok (.return_, 1) := by decide +kernel
theorem dX2_carryOutOrders_0 : decode cX2_carryOutOrders 0 = .ok (.iconst 0, 1) := by decide +kernel
theorem dX2_carryOutOrders_1 : decode cX2_carryOutOrders 1 = .ok (.istore_n 1, 1) := by decide +kernel
theorem dX2_carryOutOrders_2 : decode cX2_carryOutOrders 2 = .ok (.iconst 0, 1) := by decide +kernel
theorem dX2_carryOutOrders_3 : decode cX2_carryOutOrders 3 = .ok (.istore_n 2, 1) := by decide +kernel
theorem dX2_carryOutOrders_4 : decode cX2_carryOutOrders 4 = .ok (.iload_n 2, 1) := by decide +kernel
theorem dX2_carryOutOrders_5 : decode cX2_carryOutOrders 5 = .ok (.aload_n 0, 1) := by decide +kernel
theorem dX2_carryOutOrders_6 : decode cX2_carryOutOrders 6 = .ok (.getfield 32, 3) := by decide +kernel
theorem dX2_carryOutOrders_9 : decode cX2_carryOutOrders 9 = .ok (.invokevirtual 111, 3) := by decide +kernel
theorem dX2_carryOutOrders_12 : decode cX2_carryOutOrders 12 = .ok (.if_icmp .ge 62, 3) := by decide +kernel
theorem dX2_carryOutOrders_15 : decode cX2_carryOutOrders 15 = .ok (.aload_n 0, 1) := by decide +kernel
theorem dX2_carryOutOrders_16 : decode cX2_carryOutOrders 16 = .ok (.getfield 32, 3) := by decide +kernel
theorem dX2_carryOutOrders_19 : decode cX2_carryOutOrders 19 = .ok (.iload_n 2, 1) := by decide +kernel
theorem dX2_carryOutOrders_20 : decode cX2_carryOutOrders 20 = .ok (.invokevirtual 115, 3) := by decide +kernel
theorem dX2_carryOutOrders_23 : decode cX2_carryOutOrders 23 = .ok (.checkcast 119, 3) := by decide +kernel
theorem dX2_carryOutOrders_26 : decode cX2_carryOutOrders 26 = .ok (.astore_n 3, 1) := by decide +kernel
theorem dX2_carryOutOrders_27 : decode cX2_carryOutOrders 27 = .ok (.aload_n 3, 1) := by decide +kernel
theorem dX2_carryOutOrders_28 : decode cX2_carryOutOrders 28 = .ok (.aload_n 0, 1) := by decide +kernel
theorem dX2_carryOutOrders_29 : decode cX2_carryOutOrders 29 = .ok (.getfield 25, 3) := by decide +kernel
theorem dX2_carryOutOrders_32 : decode cX2_carryOutOrders 32 = .ok (.invokevirtual 121, 3) := by decide +kernel
theorem dX2_carryOutOrders_35 : decode cX2_carryOutOrders 35 = .ok (.ifCond .eq 20, 3) := by decide +kernel
theorem dX2_carryOutOrders_38 : decode cX2_carryOutOrders 38 = .ok (.aload_n 3, 1) := by decide +kernel
theorem dX2_carryOutOrders_39 : decode cX2_carryOutOrders 39 = .ok (.aload_n 0, 1) := by decide +kernel
theorem dX2_carryOutOrders_40 : decode cX2_carryOutOrders 40 = .ok (.getfield 25, 3) := by decide +kernel
theorem dX2_carryOutOrders_43 : decode cX2_carryOutOrders 43 = .ok (.aload_n 0, 1) := by decide +kernel
theorem dX2_carryOutOrders_44 : decode cX2_carryOutOrders 44 = .ok (.getfield 9, 3) := by decide +kernel
theorem dX2_carryOutOrders_47 : decode cX2_carryOutOrders 47 = .ok (.iconst 2, 1) := by decide +kernel
theorem dX2_carryOutOrders_48 : decode cX2_carryOutOrders 48 = .ok (.iaload, 1) := by decide +kernel
theorem dX2_carryOutOrders_49 : decode cX2_carryOutOrders 49 = .ok (.invokevirtual 125, 3) := by decide +kernel
theorem dX2_carryOutOrders_52 : decode cX2_carryOutOrders 52 = .ok (.goto 16, 3) := by decide +kernel
theorem dX2_carryOutOrders_55 : decode cX2_carryOutOrders 55 = .ok (.aload_n 0, 1) := by decide +kernel
theorem dX2_carryOutOrders_56 : decode cX2_carryOutOrders 56 = .ok (.getfield 32, 3) := by decide +kernel
theorem dX2_carryOutOrders_59 : decode cX2_carryOutOrders 59 = .ok (.iload_n 1, 1) := by decide +kernel
theorem dX2_carryOutOrders_60 : decode cX2_carryOutOrders 60 = .ok (.aload_n 3, 1) := by decide +kernel
theorem dX2_carryOutOrders_61 : decode cX2_carryOutOrders 61 = .ok (.invokevirtual 129, 3) := by decide +kernel
theorem dX2_carryOutOrders_64 : decode cX2_carryOutOrders 64 = .ok (.pop, 1) := by decide +kernel
theorem dX2_carryOutOrders_65 : decode cX2_carryOutOrders 65 = .ok (.iinc 1 1, 3) := by decide +kernel
theorem dX2_carryOutOrders_68 : decode cX2_carryOutOrders 68 = .ok (.iinc 2 1, 3) := by decide +kernel
theorem dX2_carryOutOrders_71 : decode cX2_carryOutOrders 71 = .ok (.goto (-67), 3) := by decide +kernel
theorem dX2_carryOutOrders_74 : decode cX2_carryOutOrders 74 = .ok (.aload_n 0, 1) := by decide +kernel
theorem dX2_carryOutOrders_75 : decode cX2_carryOutOrders 75 = .ok (.getfield 32, 3) := by decide +kernel
theorem dX2_carryOutOrders_78 : decode cX2_carryOutOrders 78 = .ok (.invokevirtual 111, 3) := by decide +kernel
theorem dX2_carryOutOrders_81 : decode cX2_carryOutOrders 81 = .ok (.iconst 1, 1) := by decide +kernel
theorem dX2_carryOutOrders_82 : decode cX2_carryOutOrders 82 = .ok (.isub, 1) := by decide +kernel
theorem dX2_carryOutOrders_83 : decode cX2_carryOutOrders 83 = .ok (.istore_n 2, 1) := by decide +kernel
theorem dX2_carryOutOrders_84 : decode cX2_carryOutOrders 84 = .ok (.iload_n 2, 1) := by decide +kernel
theorem dX2_carryOutOrders_85 : decode cX2_carryOutOrders 85 = .ok (.iload_n 1, 1) := by decide +kernel
theorem dX2_carryOutOrders_86 : decode cX2_carryOutOrders 86 = .ok (.if_icmp .lt 18, 3) := by decide +kernel
theorem dX2_carryOutOrders_89 : decode cX2_carryOutOrders 89 = .ok (.aload_n 0, 1) := by decide +kernel
theorem dX2_carryOutOrders_90 : decode cX2_carryOutOrders 90 = .ok (.getfield 32, 3) := by decide +kernel
theorem dX2_carryOutOrders_93 : decode cX2_carryOutOrders 93 = .ok (.iload_n 2, 1) := by decide +kernel
theorem dX2_carryOutOrders_94 : decode cX2_carryOutOrders 94 = .ok (.invokevirtual 133, 3) := by decide +kernel
theorem dX2_carryOutOrders_97 : decode cX2_carryOutOrders 97 = .ok (.pop, 1) := by decide +kernel
theorem dX2_carryOutOrders_98 : decode cX2_carryOutOrders 98 = .ok (.iinc 2 (-1), 3) := by decide +kernel
theorem dX2_carryOutOrders_101 : decode cX2_carryOutOrders 101 = .ok (.goto (-17), 3) := by decide +kernel
theorem dX2_carryOutOrders_104 : decode cX2_carryOutOrders 104 = .ok (.return_, 1) := by decide +kernel
theorem dX3_init_0 : decode cX3_init 0 = .ok (.aload_n 0, 1) := by decide +kernel
theorem dX3_init_1 : decode cX3_init 1 = .ok (.invokespecial 3, 3) := by decide +kernel
theorem dX3_init_4 : decode cX3_init 4 = .ok (.aload_n 0, 1) := by decide +kernel
theorem dX3_init_5 : decode cX3_init 5 = .ok (.bipush 60, 2) := by decide +kernel
theorem dX3_init_7 : decode cX3_init 7 = .ok (.newarray .int, 2) := by decide +kernel
theorem dX3_init_9 : decode cX3_init 9 = .ok (.putfield 9, 3) := by decide +kernel
theorem dX3_init_12 : decode cX3_init 12 = .ok (.aload_n 0, 1) := by decide +kernel
theorem dX3_init_13 : decode cX3_init 13 = .ok (.iconst 0, 1) := by decide +kernel
theorem dX3_init_14 : decode cX3_init 14 = .ok (.putfield 15, 3) := by decide +kernel
theorem dX3_init_17 : decode cX3_init 17 = .ok (.aload_n 0, 1) := by decide +kernel
theorem dX3_init_18 : decode cX3_init 18 = .ok (.new 19, 3) := by decide +kernel
theorem dX3_init_21 : decode cX3_init 21 = .ok (.dup, 1) := by decide +kernel
theorem dX3_init_22 : decode cX3_init 22 = .ok (.invokespecial 21, 3) := by decide +kernel
theorem dX3_init_25 : decode cX3_init 25 = .ok (.putfield 22, 3) := by decide +kernel
theorem dX3_init_28 : decode cX3_init 28 = .ok (.aload_n 0, 1) := by decide +kernel
theorem dX3_init_29 : decode cX3_init 29 = .ok (.sipush (-1001), 3) := by decide +kernel
theorem dX3_init_32 : decode cX3_init 32 = .ok (.putfield 26, 3) := by decide +kernel
theorem dX3_init_35 : decode cX3_init 35 = .ok (.aload_n 0, 1) := by decide +kernel
theorem dX3_init_36 : decode cX3_init 36 = .ok (.iconst 0, 1) := by decide +kernel
theorem dX3_init_37 : decode cX3_init 37 = .ok (.putfield 29, 3) := by decide +kernel
theorem dX3_init_40 : decode cX3_init 40 = .ok (.return_, 1) := by decide +kernel
theorem dX3_append_0 : decode cX3_append 0 = .ok (.aload_n 0, 1) := by decide +kernel
theorem dX3_append_1 : decode cX3_append 1 = .ok (.getfield 15, 3) := by decide +kernel
theorem dX3_append_4 : decode cX3_append 4 = .ok (.ifCond .lt 15, 3) := by decide +kernel
theorem dX3_append_7 : decode cX3_append 7 = .ok (.aload_n 0, 1) := by decide +kernel
theorem dX3_append_8 : decode cX3_append 8 = .ok (.getfield 15, 3) := by decide +kernel
theorem dX3_append_11 : decode cX3_append 11 = .ok (.aload_n 0, 1) := by decide +kernel
theorem dX3_append_12 : decode cX3_append 12 = .ok (.getfield 9, 3) := by decide +kernel
theorem dX3_append_15 : decode cX3_append 15 = .ok (.arraylength, 1) := by decide +kernel
theorem dX3_append_16 : decode cX3_append 16 = .ok (.if_icmp .lt 5, 3) := by decide +kernel
theorem dX3_append_19 : decode cX3_append 19 = .ok (.iconst 0, 1) := by decide +kernel
theorem dX3_append_20 : decode cX3_append 20 = .ok (.ireturn, 1) := by decide +kernel
theorem dX3_append_21 : decode cX3_append 21 = .ok (.aload_n 0, 1) := by decide +kernel
theorem dX3_append_22 : decode cX3_append 22 = .ok (.getfield 9, 3) := by decide +kernel
theorem dX3_append_25 : decode cX3_append 25 = .ok (.aload_n 0, 1) := by decide +kernel
theorem dX3_append_26 : decode cX3_append 26 = .ok (.getfield 15, 3) := by decide +kernel
theorem dX3_append_29 : decode cX3_append 29 = .ok (.iload_n 1, 1) := by decide +kernel
theorem dX3_append_30 : decode cX3_append 30 = .ok (.iastore, 1) := by decide +kernel
theorem dX3_append_31 : decode cX3_append 31 = .ok (.aload_n 0, 1) := by decide +kernel
theorem dX3_append_32 : decode cX3_append 32 = .ok (.dup, 1) := by decide +kernel
theorem dX3_append_33 : decode cX3_append 33 = .ok (.getfield 15, 3) := by decide +kernel
theorem dX3_append_36 : decode cX3_append 36 = .ok (.iconst 1, 1) := by decide +kernel
theorem dX3_append_37 : decode cX3_append 37 = .ok (.iadd, 1) := by decide +kernel
theorem dX3_append_38 : decode cX3_append 38 = .ok (.putfield 15, 3) := by decide +kernel
theorem dX3_append_41 : decode cX3_append 41 = .ok (.iconst 1, 1) := by decide +kernel
theorem dX3_append_42 : decode cX3_append 42 = .ok (.ireturn, 1) := by decide +kernel
theorem dX3_byteAt_0 : decode cX3_byteAt 0 = .ok (.iload_n 1, 1) := by decide +kernel
theorem dX3_byteAt_1 : decode cX3_byteAt 1 = .ok (.ifCond .lt 29, 3) := by decide +kernel
theorem dX3_byteAt_4 : decode cX3_byteAt 4 = .ok (.iload_n 1, 1) := by decide +kernel
theorem dX3_byteAt_5 : decode cX3_byteAt 5 = .ok (.aload_n 0, 1) := by decide +kernel
theorem dX3_byteAt_6 : decode cX3_byteAt 6 = .ok (.getfield 15, 3) := by decide +kernel
theorem dX3_byteAt_9 : decode cX3_byteAt 9 = .ok (.if_icmp .ge 21, 3) := by decide +kernel
theorem dX3_byteAt_12 : decode cX3_byteAt 12 = .ok (.iload_n 1, 1) := by decide +kernel
theorem dX3_byteAt_13 : decode cX3_byteAt 13 = .ok (.aload_n 0, 1) := by decide +kernel
theorem dX3_byteAt_14 : decode cX3_byteAt 14 = .ok (.getfield 9, 3) := by decide +kernel
theorem dX3_byteAt_17 : decode cX3_byteAt 17 = .ok (.arraylength, 1) := by decide +kernel
theorem dX3_byteAt_18 : decode cX3_byteAt 18 = .ok (.if_icmp .ge 12, 3) := by decide +kernel
theorem dX3_byteAt_21 : decode cX3_byteAt 21 = .ok (.aload_n 0, 1) := by decide +kernel
theorem dX3_byteAt_22 : decode cX3_byteAt 22 = .ok (.getfield 9, 3) := by decide +kernel
theorem dX3_byteAt_25 : decode cX3_byteAt 25 = .ok (.iload_n 1, 1) := by decide +kernel
theorem dX3_byteAt_26 : decode cX3_byteAt 26 = .ok (.iaload, 1) := by decide +kernel
theorem dX3_byteAt_27 : decode cX3_byteAt 27 = .ok (.goto 4, 3) := by decide +kernel
theorem dX3_byteAt_30 : decode cX3_byteAt 30 = .ok (.iconst (-1), 1) := by decide +kernel
theorem dX3_byteAt_31 : decode cX3_byteAt 31 = .ok (.ireturn, 1) := by decide +kernel
theorem dX3_read_0 : decode cX3_read 0 = .ok (.aload_n 0, 1) := by decide +kernel
theorem dX3_read_1 : decode cX3_read 1 = .ok (.getfield 22, 3) := by decide +kernel
theorem dX3_read_4 : decode cX3_read 4 = .ok (.invokevirtual 32, 3) := by decide +kernel
theorem dX3_read_7 : decode cX3_read 7 = .ok (.aload_n 0, 1) := by decide +kernel
theorem dX3_read_8 : decode cX3_read 8 = .ok (.iconst 0, 1) := by decide +kernel
theorem dX3_read_9 : decode cX3_read 9 = .ok (.putfield 29, 3) := by decide +kernel
theorem dX3_read_12 : decode cX3_read 12 = .ok (.aload_n 0, 1) := by decide +kernel
theorem dX3_read_13 : decode cX3_read 13 = .ok (.sipush (-1001), 3) := by decide +kernel
theorem dX3_read_16 : decode cX3_read 16 = .ok (.putfield 26, 3) := by decide +kernel
theorem dX3_read_19 : decode cX3_read 19 = .ok (.aload_n 0, 1) := by decide +kernel
theorem dX3_read_20 : decode cX3_read 20 = .ok (.invokevirtual 35, 3) := by decide +kernel
theorem dX3_read_23 : decode cX3_read 23 = .ok (.iconst 0, 1) := by decide +kernel
theorem dX3_read_24 : decode cX3_read 24 = .ok (.istore_n 1, 1) := by decide +kernel
theorem dX3_read_25 : decode cX3_read 25 = .ok (.iload_n 1, 1) := by decide +kernel
theorem dX3_read_26 : decode cX3_read 26 = .ok (.bipush 60, 2) := by decide +kernel
theorem dX3_read_28 : decode cX3_read 28 = .ok (.if_icmp .ge 34, 3) := by decide +kernel
theorem dX3_read_31 : decode cX3_read 31 = .ok (.aload_n 0, 1) := by decide +kernel
theorem dX3_read_32 : decode cX3_read 32 = .ok (.getfield 26, 3) := by decide +kernel
theorem dX3_read_35 : decode cX3_read 35 = .ok (.sipush (-1001), 3) := by decide +kernel
theorem dX3_read_38 : decode cX3_read 38 = .ok (.if_icmp .ne 24, 3) := by decide +kernel
theorem dX3_read_41 : decode cX3_read 41 = .ok (.aload_n 0, 1) := by decide +kernel
theorem dX3_read_42 : decode cX3_read 42 = .ok (.getfield 29, 3) := by decide +kernel
theorem dX3_read_45 : decode cX3_read 45 = .ok (.aload_n 0, 1) := by decide +kernel
theorem dX3_read_46 : decode cX3_read 46 = .ok (.getfield 15, 3) := by decide +kernel
theorem dX3_read_49 : decode cX3_read 49 = .ok (.if_icmp .ge 13, 3) := by decide +kernel
theorem dX3_read_52 : decode cX3_read 52 = .ok (.aload_n 0, 1) := by decide +kernel
theorem dX3_read_53 : decode cX3_read 53 = .ok (.invokevirtual 38, 3) := by decide +kernel
theorem dX3_read_56 : decode cX3_read 56 = .ok (.iinc 1 1, 3) := by decide +kernel
theorem dX3_read_59 : decode cX3_read 59 = .ok (.goto (-34), 3) := by decide +kernel
theorem dX3_read_62 : decode cX3_read 62 = .ok (.return_, 1) := by decide +kernel
theorem dX3_readOrder_0 : decode cX3_readOrder 0 = .ok (.aload_n 0, 1) := by decide +kernel
theorem dX3_readOrder_1 : decode cX3_readOrder 1 = .ok (.ldc 41, 2) := by decide +kernel
theorem dX3_readOrder_3 : decode cX3_readOrder 3 = .ok (.invokevirtual 43, 3) := by decide +kernel
theorem dX3_readOrder_6 : decode cX3_readOrder 6 = .ok (.pop, 1) := by decide +kernel
theorem dX3_readOrder_7 : decode cX3_readOrder 7 = .ok (.aload_n 0, 1) := by decide +kernel
theorem dX3_readOrder_8 : decode cX3_readOrder 8 = .ok (.invokevirtual 47, 3) := by decide +kernel
theorem dX3_readOrder_11 : decode cX3_readOrder 11 = .ok (.istore_n 1, 1) := by decide +kernel
theorem dX3_readOrder_12 : decode cX3_readOrder 12 = .ok (.aload_n 0, 1) := by decide +kernel
theorem dX3_readOrder_13 : decode cX3_readOrder 13 = .ok (.ldc 51, 2) := by decide +kernel
theorem dX3_readOrder_15 : decode cX3_readOrder 15 = .ok (.invokevirtual 43, 3) := by decide +kernel
theorem dX3_readOrder_18 : decode cX3_readOrder 18 = .ok (.istore_n 2, 1) := by decide +kernel
theorem dX3_readOrder_19 : decode cX3_readOrder 19 = .ok (.sipush (-1001), 3) := by decide +kernel
theorem dX3_readOrder_22 : decode cX3_readOrder 22 = .ok (.istore_n 3, 1) := by decide +kernel
theorem dX3_readOrder_23 : decode cX3_readOrder 23 = .ok (.sipush (-1001), 3) := by decide +kernel
theorem dX3_readOrder_26 : decode cX3_readOrder 26 = .ok (.istore 4, 2) := by decide +kernel
theorem dX3_readOrder_28 : decode cX3_readOrder 28 = .ok (.sipush (-1001), 3) := by decide +kernel
theorem dX3_readOrder_31 : decode cX3_readOrder 31 = .ok (.istore 5, 2) := by decide +kernel
theorem dX3_readOrder_33 : decode cX3_readOrder 33 = .ok (.iload_n 2, 1) := by decide +kernel
theorem dX3_readOrder_34 : decode cX3_readOrder 34 = .ok (.ifCond .eq 8, 3) := by decide +kernel
theorem dX3_readOrder_37 : decode cX3_readOrder 37 = .ok (.iload_n 2, 1) := by decide +kernel
theorem dX3_readOrder_38 : decode cX3_readOrder 38 = .ok (.iconst 1, 1) := by decide +kernel
theorem dX3_readOrder_39 : decode cX3_readOrder 39 = .ok (.if_icmp .ne 18, 3) := by decide +kernel
theorem dX3_readOrder_42 : decode cX3_readOrder 42 = .ok (.aload_n 0, 1) := by decide +kernel
theorem dX3_readOrder_43 : decode cX3_readOrder 43 = .ok (.iconst 0, 1) := by decide +kernel
theorem dX3_readOrder_44 : decode cX3_readOrder 44 = .ok (.iconst 5, 1) := by decide +kernel
theorem dX3_readOrder_45 : decode cX3_readOrder 45 = .ok (.invokevirtual 53, 3) := by decide +kernel
theorem dX3_readOrder_48 : decode cX3_readOrder 48 = .ok (.istore_n 3, 1) := by decide +kernel
theorem dX3_readOrder_49 : decode cX3_readOrder 49 = .ok (.aload_n 0, 1) := by decide +kernel
theorem dX3_readOrder_50 : decode cX3_readOrder 50 = .ok (.ldc 57, 2) := by decide +kernel
theorem dX3_readOrder_52 : decode cX3_readOrder 52 = .ok (.invokevirtual 43, 3) := by decide +kernel
theorem dX3_readOrder_55 : decode cX3_readOrder 55 = .ok (.istore 4, 2) := by decide +kernel
theorem dX3_readOrder_57 : decode cX3_readOrder 57 = .ok (.iload_n 2, 1) := by decide +kernel
theorem dX3_readOrder_58 : decode cX3_readOrder 58 = .ok (.ifCond .ne 11, 3) := by decide +kernel
theorem dX3_readOrder_61 : decode cX3_readOrder 61 = .ok (.aload_n 0, 1) := by decide +kernel
theorem dX3_readOrder_62 : decode cX3_readOrder 62 = .ok (.iconst 1, 1) := by decide +kernel
theorem dX3_readOrder_63 : decode cX3_readOrder 63 = .ok (.iconst 3, 1) := by decide +kernel
theorem dX3_readOrder_64 : decode cX3_readOrder 64 = .ok (.invokevirtual 53, 3) := by decide +kernel
theorem dX3_readOrder_67 : decode cX3_readOrder 67 = .ok (.istore 5, 2) := by decide +kernel
theorem dX3_readOrder_69 : decode cX3_readOrder 69 = .ok (.iload_n 2, 1) := by decide +kernel
theorem dX3_readOrder_70 : decode cX3_readOrder 70 = .ok (.iconst 2, 1) := by decide +kernel
theorem dX3_readOrder_71 : decode cX3_readOrder 71 = .ok (.if_icmp .ne 11, 3) := by decide +kernel
theorem dX3_readOrder_74 : decode cX3_readOrder 74 = .ok (.aload_n 0, 1) := by decide +kernel
theorem dX3_readOrder_75 : decode cX3_readOrder 75 = .ok (.iconst 0, 1) := by decide +kernel
theorem dX3_readOrder_76 : decode cX3_readOrder 76 = .ok (.iconst 3, 1) := by decide +kernel
theorem dX3_readOrder_77 : decode cX3_readOrder 77 = .ok (.invokevirtual 53, 3) := by decide +kernel
theorem dX3_readOrder_80 : decode cX3_readOrder 80 = .ok (.istore 5, 2) := by decide +kernel
theorem dX3_readOrder_82 : decode cX3_readOrder 82 = .ok (.aload_n 0, 1) := by decide +kernel
theorem dX3_readOrder_83 : decode cX3_readOrder 83 = .ok (.ldc 59, 2) := by decide +kernel
theorem dX3_readOrder_85 : decode cX3_readOrder 85 = .ok (.invokevirtual 43, 3) := by decide +kernel
theorem dX3_readOrder_88 : decode cX3_readOrder 88 = .ok (.pop, 1) := by decide +kernel
theorem dX3_readOrder_89 : decode cX3_readOrder 89 = .ok (.aload_n 0, 1) := by decide +kernel
theorem dX3_readOrder_90 : decode cX3_readOrder 90 = .ok (.getfield 26, 3) := by decide +kernel
theorem dX3_readOrder_93 : decode cX3_readOrder 93 = .ok (.sipush (-1001), 3) := by decide +kernel
theorem dX3_readOrder_96 : decode cX3_readOrder 96 = .ok (.if_icmp .ne 25, 3) := by decide +kernel
theorem dX3_readOrder_99 : decode cX3_readOrder 99 = .ok (.aload_n 0, 1) := by decide +kernel
theorem dX3_readOrder_100 : decode cX3_readOrder 100 = .ok (.getfield 22, 3) := by decide +kernel
theorem dX3_readOrder_103 : decode cX3_readOrder 103 = .ok (.new 61, 3) := by decide +kernel
theorem dX3_readOrder_106 : decode cX3_readOrder 106 = .ok (.dup, 1) := by decide +kernel
theorem dX3_readOrder_107 : decode cX3_readOrder 107 = .ok (.iload_n 1, 1) := by decide +kernel
theorem dX3_readOrder_108 : decode cX3_readOrder 108 = .ok (.iload_n 2, 1) := by decide +kernel
theorem dX3_readOrder_109 : decode cX3_readOrder 109 = .ok (.iload_n 3, 1) := by decide +kernel
theorem dX3_readOrder_110 : decode cX3_readOrder 110 = .ok (.iload 4, 2) := by decide +kernel
theorem dX3_readOrder_112 : decode cX3_readOrder 112 = .ok (.iload 5, 2) := by decide +kernel
theorem dX3_readOrder_114 : decode cX3_readOrder 114 = .ok (.invokespecial 63, 3) := by decide +kernel
theorem dX3_readOrder_117 : decode cX3_readOrder 117 = .ok (.invokevirtual 66, 3) := by decide +kernel
theorem dX3_readOrder_120 : decode cX3_readOrder 120 = .ok (.pop, 1) := by decide +kernel
theorem dX3_readOrder_121 : decode cX3_readOrder 121 = .ok (.return_, 1) := by decide +kernel
theorem dX3_takeOneOf_0 : decode cX3_takeOneOf 0 = .ok (.aload_n 0, 1) := by decide +kernel
theorem dX3_takeOneOf_1 : decode cX3_takeOneOf 1 = .ok (.aload_n 0, 1) := by decide +kernel
theorem dX3_takeOneOf_2 : decode cX3_takeOneOf 2 = .ok (.getfield 29, 3) := by decide +kernel
theorem dX3_takeOneOf_5 : decode cX3_takeOneOf 5 = .ok (.invokevirtual 70, 3) := by decide +kernel
theorem dX3_takeOneOf_8 : decode cX3_takeOneOf 8 = .ok (.istore_n 2, 1) := by decide +kernel
theorem dX3_takeOneOf_9 : decode cX3_takeOneOf 9 = .ok (.iload_n 2, 1) := by decide +kernel
theorem dX3_takeOneOf_10 : decode cX3_takeOneOf 10 = .ok (.iconst (-1), 1) := by decide +kernel
theorem dX3_takeOneOf_11 : decode cX3_takeOneOf 11 = .ok (.if_icmp .ne 7, 3) := by decide +kernel
theorem dX3_takeOneOf_14 : decode cX3_takeOneOf 14 = .ok (.iconst (-1), 1) := by decide +kernel
theorem dX3_takeOneOf_15 : decode cX3_takeOneOf 15 = .ok (.goto 9, 3) := by decide +kernel
theorem dX3_takeOneOf_18 : decode cX3_takeOneOf 18 = .ok (.aload_n 1, 1) := by decide +kernel
theorem dX3_takeOneOf_19 : decode cX3_takeOneOf 19 = .ok (.iload_n 2, 1) := by decide +kernel
theorem dX3_takeOneOf_20 : decode cX3_takeOneOf 20 = .ok (.i2c, 1) := by decide +kernel
theorem dX3_takeOneOf_21 : decode cX3_takeOneOf 21 = .ok (.invokevirtual 74, 3) := by decide +kernel
theorem dX3_takeOneOf_24 : decode cX3_takeOneOf 24 = .ok (.istore_n 3, 1) := by decide +kernel
theorem dX3_takeOneOf_25 : decode cX3_takeOneOf 25 = .ok (.aload_n 0, 1) := by decide +kernel
theorem dX3_takeOneOf_26 : decode cX3_takeOneOf 26 = .ok (.iload_n 3, 1) := by decide +kernel
theorem dX3_takeOneOf_27 : decode cX3_takeOneOf 27 = .ok (.iconst 0, 1) := by decide +kernel
theorem dX3_takeOneOf_28 : decode cX3_takeOneOf 28 = .ok (.aload_n 1, 1) := by decide +kernel
theorem dX3_takeOneOf_29 : decode cX3_takeOneOf 29 = .ok (.invokevirtual 79, 3) := by decide +kernel
theorem dX3_takeOneOf_32 : decode cX3_takeOneOf 32 = .ok (.iconst 1, 1) := by decide +kernel
theorem dX3_takeOneOf_33 : decode cX3_takeOneOf 33 = .ok (.isub, 1) := by decide +kernel
theorem dX3_takeOneOf_34 : decode cX3_takeOneOf 34 = .ok (.invokevirtual 81, 3) := by decide +kernel
theorem dX3_takeOneOf_37 : decode cX3_takeOneOf 37 = .ok (.ireturn, 1) := by decide +kernel
theorem dX3_takeDigit_0 : decode cX3_takeDigit 0 = .ok (.aload_n 0, 1) := by decide +kernel
theorem dX3_takeDigit_1 : decode cX3_takeDigit 1 = .ok (.aload_n 0, 1) := by decide +kernel
theorem dX3_takeDigit_2 : decode cX3_takeDigit 2 = .ok (.aload_n 0, 1) := by decide +kernel
theorem dX3_takeDigit_3 : decode cX3_takeDigit 3 = .ok (.getfield 29, 3) := by decide +kernel
theorem dX3_takeDigit_6 : decode cX3_takeDigit 6 = .ok (.invokevirtual 70, 3) := by decide +kernel
theorem dX3_takeDigit_9 : decode cX3_takeDigit 9 = .ok (.bipush 48, 2) := by decide +kernel
theorem dX3_takeDigit_11 : decode cX3_takeDigit 11 = .ok (.isub, 1) := by decide +kernel
theorem dX3_takeDigit_12 : decode cX3_takeDigit 12 = .ok (.iload_n 1, 1) := by decide +kernel
theorem dX3_takeDigit_13 : decode cX3_takeDigit 13 = .ok (.iload_n 2, 1) := by decide +kernel
theorem dX3_takeDigit_14 : decode cX3_takeDigit 14 = .ok (.invokevirtual 81, 3) := by decide +kernel
theorem dX3_takeDigit_17 : decode cX3_takeDigit 17 = .ok (.ireturn, 1) := by decide +kernel
theorem dX3_take_0 : decode cX3_take 0 = .ok (.aload_n 0, 1) := by decide +kernel
theorem dX3_take_1 : decode cX3_take 1 = .ok (.getfield 26, 3) := by decide +kernel
theorem dX3_take_4 : decode cX3_take 4 = .ok (.sipush (-1001), 3) := by decide +kernel
theorem dX3_take_7 : decode cX3_take 7 = .ok (.if_icmp .eq 7, 3) := by decide +kernel
theorem dX3_take_10 : decode cX3_take 10 = .ok (.sipush (-1001), 3) := by decide +kernel
theorem dX3_take_13 : decode cX3_take 13 = .ok (.ireturn, 1) := by decide +kernel
theorem dX3_take_14 : decode cX3_take 14 = .ok (.iload_n 1, 1) := by decide +kernel
theorem dX3_take_15 : decode cX3_take 15 = .ok (.iload_n 2, 1) := by decide +kernel
theorem dX3_take_16 : decode cX3_take 16 = .ok (.iload_n 3, 1) := by decide +kernel
theorem dX3_take_17 : decode cX3_take 17 = .ok (.invokestatic 85, 3) := by decide +kernel
theorem dX3_take_20 : decode cX3_take 20 = .ok (.ifCond .ne 15, 3) := by decide +kernel
theorem dX3_take_23 : decode cX3_take 23 = .ok (.aload_n 0, 1) := by decide +kernel
theorem dX3_take_24 : decode cX3_take 24 = .ok (.aload_n 0, 1) := by decide +kernel
theorem dX3_take_25 : decode cX3_take 25 = .ok (.getfield 29, 3) := by decide +kernel
theorem dX3_take_28 : decode cX3_take 28 = .ok (.putfield 26, 3) := by decide +kernel
theorem dX3_take_31 : decode cX3_take 31 = .ok (.sipush (-1001), 3) := by decide +kernel
theorem dX3_take_34 : decode cX3_take 34 = .ok (.ireturn, 1) := by decide +kernel
theorem dX3_take_35 : decode cX3_take 35 = .ok (.aload_n 0, 1) := by decide +kernel
theorem dX3_take_36 : decode cX3_take 36 = .ok (.dup, 1) := by decide +kernel
theorem dX3_take_37 : decode cX3_take 37 = .ok (.getfield 29, 3) := by decide +kernel
theorem dX3_take_40 : decode cX3_take 40 = .ok (.iconst 1, 1) := by decide +kernel
theorem dX3_take_41 : decode cX3_take 41 = .ok (.iadd, 1) := by decide +kernel
theorem dX3_take_42 : decode cX3_take 42 = .ok (.putfield 29, 3) := by decide +kernel
theorem dX3_take_45 : decode cX3_take 45 = .ok (.aload_n 0, 1) := by decide +kernel
theorem dX3_take_46 : decode cX3_take 46 = .ok (.invokevirtual 35, 3) := by decide +kernel
theorem dX3_take_49 : decode cX3_take 49 = .ok (.iload_n 1, 1) := by decide +kernel
theorem dX3_take_50 : decode cX3_take 50 = .ok (.ireturn, 1) := by decide +kernel
theorem dX3_takeCell_0 : decode cX3_takeCell 0 = .ok (.aload_n 0, 1) := by decide +kernel
theorem dX3_takeCell_1 : decode cX3_takeCell 1 = .ok (.getfield 26, 3) := by decide +kernel
theorem dX3_takeCell_4 : decode cX3_takeCell 4 = .ok (.sipush (-1001), 3) := by decide +kernel
theorem dX3_takeCell_7 : decode cX3_takeCell 7 = .ok (.if_icmp .eq 7, 3) := by decide +kernel
theorem dX3_takeCell_10 : decode cX3_takeCell 10 = .ok (.sipush (-1001), 3) := by decide +kernel
theorem dX3_takeCell_13 : decode cX3_takeCell 13 = .ok (.ireturn, 1) := by decide +kernel
theorem dX3_takeCell_14 : decode cX3_takeCell 14 = .ok (.aload_n 0, 1) := by decide +kernel
theorem dX3_takeCell_15 : decode cX3_takeCell 15 = .ok (.getfield 29, 3) := by decide +kernel
theorem dX3_takeCell_18 : decode cX3_takeCell 18 = .ok (.istore_n 1, 1) := by decide +kernel
theorem dX3_takeCell_19 : decode cX3_takeCell 19 = .ok (.iconst 0, 1) := by decide +kernel
theorem dX3_takeCell_20 : decode cX3_takeCell 20 = .ok (.istore_n 2, 1) := by decide +kernel
theorem dX3_takeCell_21 : decode cX3_takeCell 21 = .ok (.iconst 0, 1) := by decide +kernel
theorem dX3_takeCell_22 : decode cX3_takeCell 22 = .ok (.istore_n 3, 1) := by decide +kernel
theorem dX3_takeCell_23 : decode cX3_takeCell 23 = .ok (.iload_n 3, 1) := by decide +kernel
theorem dX3_takeCell_24 : decode cX3_takeCell 24 = .ok (.iconst 2, 1) := by decide +kernel
theorem dX3_takeCell_25 : decode cX3_takeCell 25 = .ok (.if_icmp .ge 50, 3) := by decide +kernel
theorem dX3_takeCell_28 : decode cX3_takeCell 28 = .ok (.aload_n 0, 1) := by decide +kernel
theorem dX3_takeCell_29 : decode cX3_takeCell 29 = .ok (.aload_n 0, 1) := by decide +kernel
theorem dX3_takeCell_30 : decode cX3_takeCell 30 = .ok (.getfield 29, 3) := by decide +kernel
theorem dX3_takeCell_33 : decode cX3_takeCell 33 = .ok (.invokevirtual 70, 3) := by decide +kernel
theorem dX3_takeCell_36 : decode cX3_takeCell 36 = .ok (.invokestatic 89, 3) := by decide +kernel
theorem dX3_takeCell_39 : decode cX3_takeCell 39 = .ok (.ifCond .eq 36, 3) := by decide +kernel
theorem dX3_takeCell_42 : decode cX3_takeCell 42 = .ok (.bipush 10, 2) := by decide +kernel
theorem dX3_takeCell_44 : decode cX3_takeCell 44 = .ok (.iload_n 2, 1) := by decide +kernel
theorem dX3_takeCell_45 : decode cX3_takeCell 45 = .ok (.imul, 1) := by decide +kernel
theorem dX3_takeCell_46 : decode cX3_takeCell 46 = .ok (.aload_n 0, 1) := by decide +kernel
theorem dX3_takeCell_47 : decode cX3_takeCell 47 = .ok (.aload_n 0, 1) := by decide +kernel
theorem dX3_takeCell_48 : decode cX3_takeCell 48 = .ok (.getfield 29, 3) := by decide +kernel
theorem dX3_takeCell_51 : decode cX3_takeCell 51 = .ok (.invokevirtual 70, 3) := by decide +kernel
theorem dX3_takeCell_54 : decode cX3_takeCell 54 = .ok (.iadd, 1) := by decide +kernel
theorem dX3_takeCell_55 : decode cX3_takeCell 55 = .ok (.bipush 48, 2) := by decide +kernel
theorem dX3_takeCell_57 : decode cX3_takeCell 57 = .ok (.isub, 1) := by decide +kernel
theorem dX3_takeCell_58 : decode cX3_takeCell 58 = .ok (.istore_n 2, 1) := by decide +kernel
theorem dX3_takeCell_59 : decode cX3_takeCell 59 = .ok (.aload_n 0, 1) := by decide +kernel
theorem dX3_takeCell_60 : decode cX3_takeCell 60 = .ok (.dup, 1) := by decide +kernel
theorem dX3_takeCell_61 : decode cX3_takeCell 61 = .ok (.getfield 29, 3) := by decide +kernel
theorem dX3_takeCell_64 : decode cX3_takeCell 64 = .ok (.iconst 1, 1) := by decide +kernel
theorem dX3_takeCell_65 : decode cX3_takeCell 65 = .ok (.iadd, 1) := by decide +kernel
theorem dX3_takeCell_66 : decode cX3_takeCell 66 = .ok (.putfield 29, 3) := by decide +kernel
theorem dX3_takeCell_69 : decode cX3_takeCell 69 = .ok (.iinc 3 1, 3) := by decide +kernel
theorem dX3_takeCell_72 : decode cX3_takeCell 72 = .ok (.goto (-49), 3) := by decide +kernel
theorem dX3_takeCell_75 : decode cX3_takeCell 75 = .ok (.aload_n 0, 1) := by decide +kernel
theorem dX3_takeCell_76 : decode cX3_takeCell 76 = .ok (.getfield 29, 3) := by decide +kernel
theorem dX3_takeCell_79 : decode cX3_takeCell 79 = .ok (.iload_n 1, 1) := by decide +kernel
theorem dX3_takeCell_80 : decode cX3_takeCell 80 = .ok (.if_icmp .eq 9, 3) := by decide +kernel
theorem dX3_takeCell_83 : decode cX3_takeCell 83 = .ok (.iload_n 2, 1) := by decide +kernel
theorem dX3_takeCell_84 : decode cX3_takeCell 84 = .ok (.bipush 40, 2) := by decide +kernel
theorem dX3_takeCell_86 : decode cX3_takeCell 86 = .ok (.if_icmp .lt 12, 3) := by decide +kernel
theorem dX3_takeCell_89 : decode cX3_takeCell 89 = .ok (.aload_n 0, 1) := by decide +kernel
theorem dX3_takeCell_90 : decode cX3_takeCell 90 = .ok (.iload_n 1, 1) := by decide +kernel
theorem dX3_takeCell_91 : decode cX3_takeCell 91 = .ok (.putfield 26, 3) := by decide +kernel
theorem dX3_takeCell_94 : decode cX3_takeCell 94 = .ok (.sipush (-1001), 3) := by decide +kernel
theorem dX3_takeCell_97 : decode cX3_takeCell 97 = .ok (.ireturn, 1) := by decide +kernel
theorem dX3_takeCell_98 : decode cX3_takeCell 98 = .ok (.aload_n 0, 1) := by decide +kernel
theorem dX3_takeCell_99 : decode cX3_takeCell 99 = .ok (.invokevirtual 35, 3) := by decide +kernel
theorem dX3_takeCell_102 : decode cX3_takeCell 102 = .ok (.iload_n 2, 1) := by decide +kernel
theorem dX3_takeCell_103 : decode cX3_takeCell 103 = .ok (.ireturn, 1) := by decide +kernel
theorem dX3_skipBlanks_0 : decode cX3_skipBlanks 0 = .ok (.iconst 0, 1) := by decide +kernel
theorem dX3_skipBlanks_1 : decode cX3_skipBlanks 1 = .ok (.istore_n 1, 1) := by decide +kernel
theorem dX3_skipBlanks_2 : decode cX3_skipBlanks 2 = .ok (.iload_n 1, 1) := by decide +kernel
theorem dX3_skipBlanks_3 : decode cX3_skipBlanks 3 = .ok (.bipush 60, 2) := by decide +kernel
theorem dX3_skipBlanks_5 : decode cX3_skipBlanks 5 = .ok (.if_icmp .ge 32, 3) := by decide +kernel
theorem dX3_skipBlanks_8 : decode cX3_skipBlanks 8 = .ok (.aload_n 0, 1) := by decide +kernel
theorem dX3_skipBlanks_9 : decode cX3_skipBlanks 9 = .ok (.aload_n 0, 1) := by decide +kernel
theorem dX3_skipBlanks_10 : decode cX3_skipBlanks 10 = .ok (.getfield 29, 3) := by decide +kernel
theorem dX3_skipBlanks_13 : decode cX3_skipBlanks 13 = .ok (.invokevirtual 70, 3) := by decide +kernel
theorem dX3_skipBlanks_16 : decode cX3_skipBlanks 16 = .ok (.bipush 32, 2) := by decide +kernel
theorem dX3_skipBlanks_18 : decode cX3_skipBlanks 18 = .ok (.if_icmp .ne 19, 3) := by decide +kernel
theorem dX3_skipBlanks_21 : decode cX3_skipBlanks 21 = .ok (.aload_n 0, 1) := by decide +kernel
theorem dX3_skipBlanks_22 : decode cX3_skipBlanks 22 = .ok (.dup, 1) := by decide +kernel
theorem dX3_skipBlanks_23 : decode cX3_skipBlanks 23 = .ok (.getfield 29, 3) := by decide +kernel
theorem dX3_skipBlanks_26 : decode cX3_skipBlanks 26 = .ok (.iconst 1, 1) := by decide +kernel
theorem dX3_skipBlanks_27 : decode cX3_skipBlanks 27 = .ok (.iadd, 1) := by decide +kernel
theorem dX3_skipBlanks_28 : decode cX3_skipBlanks 28 = .ok (.putfield 29, 3) := by decide +kernel
theorem dX3_skipBlanks_31 : decode cX3_skipBlanks 31 = .ok (.iinc 1 1, 3) := by decide +kernel
theorem dX3_skipBlanks_34 : decode cX3_skipBlanks 34 = .ok (.goto (-32), 3) := by decide +kernel
theorem dX3_skipBlanks_37 : decode cX3_skipBlanks 37 = .ok (.return_, 1) := by decide +kernel
theorem dX3_isDigit_0 : decode cX3_isDigit 0 = .ok (.iload_n 0, 1) := by decide +kernel
theorem dX3_isDigit_1 : decode cX3_isDigit 1 = .ok (.bipush 48, 2) := by decide +kernel
theorem dX3_isDigit_3 : decode cX3_isDigit 3 = .ok (.bipush 57, 2) := by decide +kernel
theorem dX3_isDigit_5 : decode cX3_isDigit 5 = .ok (.invokestatic 85, 3) := by decide +kernel
theorem dX3_isDigit_8 : decode cX3_isDigit 8 = .ok (.ireturn, 1) := by decide +kernel
theorem dX4_init_0 : decode cX4_init 0 = .ok (.aload_n 0, 1) := by decide +kernel
theorem dX4_init_1 : decode cX4_init 1 = .ok (.invokespecial 3, 3) := by decide +kernel
theorem dX4_init_4 : decode cX4_init 4 = .ok (.aload_n 0, 1) := by decide +kernel
theorem dX4_init_5 : decode cX4_init 5 = .ok (.bipush 120, 2) := by decide +kernel
theorem dX4_init_7 : decode cX4_init 7 = .ok (.newarray .int, 2) := by decide +kernel
theorem dX4_init_9 : decode cX4_init 9 = .ok (.putfield 9, 3) := by decide +kernel
theorem dX4_init_12 : decode cX4_init 12 = .ok (.return_, 1) := by decide +kernel
theorem dX4_has_0 : decode cX4_has 0 = .ok (.iload_n 0, 1) := by decide +kernel
theorem dX4_has_1 : decode cX4_has 1 = .ok (.ifCond .lt 22, 3) := by decide +kernel
theorem dX4_has_4 : decode cX4_has 4 = .ok (.iload_n 0, 1) := by decide +kernel
theorem dX4_has_5 : decode cX4_has 5 = .ok (.bipush 40, 2) := by decide +kernel
theorem dX4_has_7 : decode cX4_has 7 = .ok (.if_icmp .ge 16, 3) := by decide +kernel
theorem dX4_has_10 : decode cX4_has 10 = .ok (.iload_n 1, 1) := by decide +kernel
theorem dX4_has_11 : decode cX4_has 11 = .ok (.ifCond .lt 12, 3) := by decide +kernel
theorem dX4_has_14 : decode cX4_has 14 = .ok (.iload_n 1, 1) := by decide +kernel
theorem dX4_has_15 : decode cX4_has 15 = .ok (.iconst 3, 1) := by decide +kernel
theorem dX4_has_16 : decode cX4_has 16 = .ok (.if_icmp .ge 7, 3) := by decide +kernel
theorem dX4_has_19 : decode cX4_has 19 = .ok (.iconst 1, 1) := by decide +kernel
theorem dX4_has_20 : decode cX4_has 20 = .ok (.goto 4, 3) := by decide +kernel
theorem dX4_has_23 : decode cX4_has 23 = .ok (.iconst 0, 1) := by decide +kernel
theorem dX4_has_24 : decode cX4_has 24 = .ok (.ireturn, 1) := by decide +kernel
theorem dX4_heightAt_0 : decode cX4_heightAt 0 = .ok (.iload_n 1, 1) := by decide +kernel
theorem dX4_heightAt_1 : decode cX4_heightAt 1 = .ok (.iload_n 2, 1) := by decide +kernel
theorem dX4_heightAt_2 : decode cX4_heightAt 2 = .ok (.invokestatic 15, 3) := by decide +kernel
theorem dX4_heightAt_5 : decode cX4_heightAt 5 = .ok (.ifCond .eq 16, 3) := by decide +kernel
theorem dX4_heightAt_8 : decode cX4_heightAt 8 = .ok (.aload_n 0, 1) := by decide +kernel
theorem dX4_heightAt_9 : decode cX4_heightAt 9 = .ok (.getfield 9, 3) := by decide +kernel
theorem dX4_heightAt_12 : decode cX4_heightAt 12 = .ok (.iconst 3, 1) := by decide +kernel
theorem dX4_heightAt_13 : decode cX4_heightAt 13 = .ok (.iload_n 1, 1) := by decide +kernel
theorem dX4_heightAt_14 : decode cX4_heightAt 14 = .ok (.imul, 1) := by decide +kernel
theorem dX4_heightAt_15 : decode cX4_heightAt 15 = .ok (.iload_n 2, 1) := by decide +kernel
theorem dX4_heightAt_16 : decode cX4_heightAt 16 = .ok (.iadd, 1) := by decide +kernel
theorem dX4_heightAt_17 : decode cX4_heightAt 17 = .ok (.iaload, 1) := by decide +kernel
theorem dX4_heightAt_18 : decode cX4_heightAt 18 = .ok (.goto 4, 3) := by decide +kernel
theorem dX4_heightAt_21 : decode cX4_heightAt 21 = .ok (.iconst 0, 1) := by decide +kernel
theorem dX4_heightAt_22 : decode cX4_heightAt 22 = .ok (.ireturn, 1) := by decide +kernel
theorem dX4_add_0 : decode cX4_add 0 = .ok (.iload_n 1, 1) := by decide +kernel
theorem dX4_add_1 : decode cX4_add 1 = .ok (.iload_n 2, 1) := by decide +kernel
theorem dX4_add_2 : decode cX4_add 2 = .ok (.invokestatic 15, 3) := by decide +kernel
theorem dX4_add_5 : decode cX4_add 5 = .ok (.ifCond .eq 17, 3) := by decide +kernel
theorem dX4_add_8 : decode cX4_add 8 = .ok (.aload_n 0, 1) := by decide +kernel
theorem dX4_add_9 : decode cX4_add 9 = .ok (.getfield 9, 3) := by decide +kernel
theorem dX4_add_12 : decode cX4_add 12 = .ok (.iconst 3, 1) := by decide +kernel
theorem dX4_add_13 : decode cX4_add 13 = .ok (.iload_n 1, 1) := by decide +kernel
theorem dX4_add_14 : decode cX4_add 14 = .ok (.imul, 1) := by decide +kernel
theorem dX4_add_15 : decode cX4_add 15 = .ok (.iload_n 2, 1) := by decide +kernel
theorem dX4_add_16 : decode cX4_add 16 = .ok (.iadd, 1) := by decide +kernel
theorem dX4_add_17 : decode cX4_add 17 = .ok (.dup2, 1) := by decide +kernel
theorem dX4_add_18 : decode cX4_add 18 = .ok (.iaload, 1) := by decide +kernel
theorem dX4_add_19 : decode cX4_add 19 = .ok (.iload_n 3, 1) := by decide +kernel
theorem dX4_add_20 : decode cX4_add 20 = .ok (.iadd, 1) := by decide +kernel
theorem dX4_add_21 : decode cX4_add 21 = .ok (.iastore, 1) := by decide +kernel
theorem dX4_add_22 : decode cX4_add 22 = .ok (.return_, 1) := by decide +kernel
theorem dX4_slide_0 : decode cX4_slide 0 = .ok (.iconst 0, 1) := by decide +kernel
theorem dX4_slide_1 : decode cX4_slide 1 = .ok (.istore_n 2, 1) := by decide +kernel
theorem dX4_slide_2 : decode cX4_slide 2 = .ok (.iload_n 2, 1) := by decide +kernel
theorem dX4_slide_3 : decode cX4_slide 3 = .ok (.iconst 3, 1) := by decide +kernel
theorem dX4_slide_4 : decode cX4_slide 4 = .ok (.iadd, 1) := by decide +kernel
theorem dX4_slide_5 : decode cX4_slide 5 = .ok (.aload_n 0, 1) := by decide +kernel
theorem dX4_slide_6 : decode cX4_slide 6 = .ok (.getfield 9, 3) := by decide +kernel
theorem dX4_slide_9 : decode cX4_slide 9 = .ok (.arraylength, 1) := by decide +kernel
theorem dX4_slide_10 : decode cX4_slide 10 = .ok (.if_icmp .ge 83, 3) := by decide +kernel
theorem dX4_slide_13 : decode cX4_slide 13 = .ok (.aload_n 0, 1) := by decide +kernel
theorem dX4_slide_14 : decode cX4_slide 14 = .ok (.getfield 9, 3) := by decide +kernel
theorem dX4_slide_17 : decode cX4_slide 17 = .ok (.iload_n 2, 1) := by decide +kernel
theorem dX4_slide_18 : decode cX4_slide 18 = .ok (.iaload, 1) := by decide +kernel
theorem dX4_slide_19 : decode cX4_slide 19 = .ok (.aload_n 0, 1) := by decide +kernel
theorem dX4_slide_20 : decode cX4_slide 20 = .ok (.getfield 9, 3) := by decide +kernel
theorem dX4_slide_23 : decode cX4_slide 23 = .ok (.iload_n 2, 1) := by decide +kernel
theorem dX4_slide_24 : decode cX4_slide 24 = .ok (.iconst 3, 1) := by decide +kernel
theorem dX4_slide_25 : decode cX4_slide 25 = .ok (.iadd, 1) := by decide +kernel
theorem dX4_slide_26 : decode cX4_slide 26 = .ok (.iaload, 1) := by decide +kernel
theorem dX4_slide_27 : decode cX4_slide 27 = .ok (.isub, 1) := by decide +kernel
theorem dX4_slide_28 : decode cX4_slide 28 = .ok (.istore_n 3, 1) := by decide +kernel
theorem dX4_slide_29 : decode cX4_slide 29 = .ok (.iload_n 3, 1) := by decide +kernel
theorem dX4_slide_30 : decode cX4_slide 30 = .ok (.iload_n 1, 1) := by decide +kernel
theorem dX4_slide_31 : decode cX4_slide 31 = .ok (.if_icmp .le 28, 3) := by decide +kernel
theorem dX4_slide_34 : decode cX4_slide 34 = .ok (.aload_n 0, 1) := by decide +kernel
theorem dX4_slide_35 : decode cX4_slide 35 = .ok (.getfield 9, 3) := by decide +kernel
theorem dX4_slide_38 : decode cX4_slide 38 = .ok (.iload_n 2, 1) := by decide +kernel
theorem dX4_slide_39 : decode cX4_slide 39 = .ok (.dup2, 1) := by decide +kernel
theorem dX4_slide_40 : decode cX4_slide 40 = .ok (.iaload, 1) := by decide +kernel
theorem dX4_slide_41 : decode cX4_slide 41 = .ok (.iconst 1, 1) := by decide +kernel
theorem dX4_slide_42 : decode cX4_slide 42 = .ok (.isub, 1) := by decide +kernel
theorem dX4_slide_43 : decode cX4_slide 43 = .ok (.iastore, 1) := by decide +kernel
theorem dX4_slide_44 : decode cX4_slide 44 = .ok (.aload_n 0, 1) := by decide +kernel
theorem dX4_slide_45 : decode cX4_slide 45 = .ok (.getfield 9, 3) := by decide +kernel
theorem dX4_slide_48 : decode cX4_slide 48 = .ok (.iload_n 2, 1) := by decide +kernel
theorem dX4_slide_49 : decode cX4_slide 49 = .ok (.iconst 3, 1) := by decide +kernel
theorem dX4_slide_50 : decode cX4_slide 50 = .ok (.iadd, 1) := by decide +kernel
theorem dX4_slide_51 : decode cX4_slide 51 = .ok (.dup2, 1) := by decide +kernel
theorem dX4_slide_52 : decode cX4_slide 52 = .ok (.iaload, 1) := by decide +kernel
theorem dX4_slide_53 : decode cX4_slide 53 = .ok (.iconst 1, 1) := by decide +kernel
theorem dX4_slide_54 : decode cX4_slide 54 = .ok (.iadd, 1) := by decide +kernel
theorem dX4_slide_55 : decode cX4_slide 55 = .ok (.iastore, 1) := by decide +kernel
theorem dX4_slide_56 : decode cX4_slide 56 = .ok (.goto 31, 3) := by decide +kernel
theorem dX4_slide_59 : decode cX4_slide 59 = .ok (.iload_n 3, 1) := by decide +kernel
theorem dX4_slide_60 : decode cX4_slide 60 = .ok (.iload_n 1, 1) := by decide +kernel
theorem dX4_slide_61 : decode cX4_slide 61 = .ok (.ineg, 1) := by decide +kernel
theorem dX4_slide_62 : decode cX4_slide 62 = .ok (.if_icmp .ge 25, 3) := by decide +kernel
theorem dX4_slide_65 : decode cX4_slide 65 = .ok (.aload_n 0, 1) := by decide +kernel
theorem dX4_slide_66 : decode cX4_slide 66 = .ok (.getfield 9, 3) := by decide +kernel
theorem dX4_slide_69 : decode cX4_slide 69 = .ok (.iload_n 2, 1) := by decide +kernel
theorem dX4_slide_70 : decode cX4_slide 70 = .ok (.dup2, 1) := by decide +kernel
theorem dX4_slide_71 : decode cX4_slide 71 = .ok (.iaload, 1) := by decide +kernel
theorem dX4_slide_72 : decode cX4_slide 72 = .ok (.iconst 1, 1) := by decide +kernel
theorem dX4_slide_73 : decode cX4_slide 73 = .ok (.iadd, 1) := by decide +kernel
theorem dX4_slide_74 : decode cX4_slide 74 = .ok (.iastore, 1) := by decide +kernel
theorem dX4_slide_75 : decode cX4_slide 75 = .ok (.aload_n 0, 1) := by decide +kernel
theorem dX4_slide_76 : decode cX4_slide 76 = .ok (.getfield 9, 3) := by decide +kernel
theorem dX4_slide_79 : decode cX4_slide 79 = .ok (.iload_n 2, 1) := by decide +kernel
theorem dX4_slide_80 : decode cX4_slide 80 = .ok (.iconst 3, 1) := by decide +kernel
theorem dX4_slide_81 : decode cX4_slide 81 = .ok (.iadd, 1) := by decide +kernel
theorem dX4_slide_82 : decode cX4_slide 82 = .ok (.dup2, 1) := by decide +kernel
theorem dX4_slide_83 : decode cX4_slide 83 = .ok (.iaload, 1) := by decide +kernel
theorem dX4_slide_84 : decode cX4_slide 84 = .ok (.iconst 1, 1) := by decide +kernel
theorem dX4_slide_85 : decode cX4_slide 85 = .ok (.isub, 1) := by decide +kernel
theorem dX4_slide_86 : decode cX4_slide 86 = .ok (.iastore, 1) := by decide +kernel
theorem dX4_slide_87 : decode cX4_slide 87 = .ok (.iinc 2 1, 3) := by decide +kernel
theorem dX4_slide_90 : decode cX4_slide 90 = .ok (.goto (-88), 3) := by decide +kernel
theorem dX4_slide_93 : decode cX4_slide 93 = .ok (.return_, 1) := by decide +kernel
theorem dX4_cutShoulders_0 : decode cX4_cutShoulders 0 = .ok (.iconst 0, 1) := by decide +kernel
theorem dX4_cutShoulders_1 : decode cX4_cutShoulders 1 = .ok (.istore_n 2, 1) := by decide +kernel
theorem dX4_cutShoulders_2 : decode cX4_cutShoulders 2 = .ok (.iconst 0, 1) := by decide +kernel
theorem dX4_cutShoulders_3 : decode cX4_cutShoulders 3 = .ok (.istore_n 3, 1) := by decide +kernel
theorem dX4_cutShoulders_4 : decode cX4_cutShoulders 4 = .ok (.iload_n 3, 1) := by decide +kernel
theorem dX4_cutShoulders_5 : decode cX4_cutShoulders 5 = .ok (.aload_n 0, 1) := by decide +kernel
theorem dX4_cutShoulders_6 : decode cX4_cutShoulders 6 = .ok (.getfield 9, 3) := by decide +kernel
theorem dX4_cutShoulders_9 : decode cX4_cutShoulders 9 = .ok (.arraylength, 1) := by decide +kernel
theorem dX4_cutShoulders_10 : decode cX4_cutShoulders 10 = .ok (.if_icmp .ge 47, 3) := by decide +kernel
theorem dX4_cutShoulders_13 : decode cX4_cutShoulders 13 = .ok (.aload_n 0, 1) := by decide +kernel
theorem dX4_cutShoulders_14 : decode cX4_cutShoulders 14 = .ok (.getfield 9, 3) := by decide +kernel
theorem dX4_cutShoulders_17 : decode cX4_cutShoulders 17 = .ok (.iload_n 3, 1) := by decide +kernel
theorem dX4_cutShoulders_18 : decode cX4_cutShoulders 18 = .ok (.iaload, 1) := by decide +kernel
theorem dX4_cutShoulders_19 : decode cX4_cutShoulders 19 = .ok (.iload_n 1, 1) := by decide +kernel
theorem dX4_cutShoulders_20 : decode cX4_cutShoulders 20 = .ok (.isub, 1) := by decide +kernel
theorem dX4_cutShoulders_21 : decode cX4_cutShoulders 21 = .ok (.istore 4, 2) := by decide +kernel
theorem dX4_cutShoulders_23 : decode cX4_cutShoulders 23 = .ok (.iload_n 3, 1) := by decide +kernel
theorem dX4_cutShoulders_24 : decode cX4_cutShoulders 24 = .ok (.iconst 3, 1) := by decide +kernel
theorem dX4_cutShoulders_25 : decode cX4_cutShoulders 25 = .ok (.irem, 1) := by decide +kernel
theorem dX4_cutShoulders_26 : decode cX4_cutShoulders 26 = .ok (.iconst 1, 1) := by decide +kernel
theorem dX4_cutShoulders_27 : decode cX4_cutShoulders 27 = .ok (.if_icmp .eq 24, 3) := by decide +kernel
theorem dX4_cutShoulders_30 : decode cX4_cutShoulders 30 = .ok (.iload 4, 2) := by decide +kernel
theorem dX4_cutShoulders_32 : decode cX4_cutShoulders 32 = .ok (.ifCond .le 19, 3) := by decide +kernel
theorem dX4_cutShoulders_35 : decode cX4_cutShoulders 35 = .ok (.aload_n 0, 1) := by decide +kernel
theorem dX4_cutShoulders_36 : decode cX4_cutShoulders 36 = .ok (.getfield 9, 3) := by decide +kernel
theorem dX4_cutShoulders_39 : decode cX4_cutShoulders 39 = .ok (.iload_n 3, 1) := by decide +kernel
theorem dX4_cutShoulders_40 : decode cX4_cutShoulders 40 = .ok (.dup2, 1) := by decide +kernel
theorem dX4_cutShoulders_41 : decode cX4_cutShoulders 41 = .ok (.iaload, 1) := by decide +kernel
theorem dX4_cutShoulders_42 : decode cX4_cutShoulders 42 = .ok (.iload 4, 2) := by decide +kernel
theorem dX4_cutShoulders_44 : decode cX4_cutShoulders 44 = .ok (.isub, 1) := by decide +kernel
theorem dX4_cutShoulders_45 : decode cX4_cutShoulders 45 = .ok (.iastore, 1) := by decide +kernel
theorem dX4_cutShoulders_46 : decode cX4_cutShoulders 46 = .ok (.iload_n 2, 1) := by decide +kernel
theorem dX4_cutShoulders_47 : decode cX4_cutShoulders 47 = .ok (.iload 4, 2) := by decide +kernel
theorem dX4_cutShoulders_49 : decode cX4_cutShoulders 49 = .ok (.iadd, 1) := by decide +kernel
theorem dX4_cutShoulders_50 : decode cX4_cutShoulders 50 = .ok (.istore_n 2, 1) := by decide +kernel
theorem dX4_cutShoulders_51 : decode cX4_cutShoulders 51 = .ok (.iinc 3 1, 3) := by decide +kernel
theorem dX4_cutShoulders_54 : decode cX4_cutShoulders 54 = .ok (.goto (-50), 3) := by decide +kernel
theorem dX4_cutShoulders_57 : decode cX4_cutShoulders 57 = .ok (.iload_n 2, 1) := by decide +kernel
theorem dX4_cutShoulders_58 : decode cX4_cutShoulders 58 = .ok (.ireturn, 1) := by decide +kernel
theorem dX4_units_0 : decode cX4_units 0 = .ok (.aload_n 0, 1) := by decide +kernel
theorem dX4_units_1 : decode cX4_units 1 = .ok (.getfield 9, 3) := by decide +kernel
theorem dX4_units_4 : decode cX4_units 4 = .ok (.invokestatic 19, 3) := by decide +kernel
theorem dX4_units_7 : decode cX4_units 7 = .ok (.ireturn, 1) := by decide +kernel
theorem dX4_sumOn_0 : decode cX4_sumOn 0 = .ok (.iconst 0, 1) := by decide +kernel
theorem dX4_sumOn_1 : decode cX4_sumOn 1 = .ok (.istore_n 2, 1) := by decide +kernel
theorem dX4_sumOn_2 : decode cX4_sumOn 2 = .ok (.iconst 0, 1) := by decide +kernel
theorem dX4_sumOn_3 : decode cX4_sumOn 3 = .ok (.istore_n 3, 1) := by decide +kernel
theorem dX4_sumOn_4 : decode cX4_sumOn 4 = .ok (.iload_n 3, 1) := by decide +kernel
theorem dX4_sumOn_5 : decode cX4_sumOn 5 = .ok (.bipush 40, 2) := by decide +kernel
theorem dX4_sumOn_7 : decode cX4_sumOn 7 = .ok (.if_icmp .ge 18, 3) := by decide +kernel
theorem dX4_sumOn_10 : decode cX4_sumOn 10 = .ok (.iload_n 2, 1) := by decide +kernel
theorem dX4_sumOn_11 : decode cX4_sumOn 11 = .ok (.aload_n 0, 1) := by decide +kernel
theorem dX4_sumOn_12 : decode cX4_sumOn 12 = .ok (.iload_n 3, 1) := by decide +kernel
theorem dX4_sumOn_13 : decode cX4_sumOn 13 = .ok (.iload_n 1, 1) := by decide +kernel
theorem dX4_sumOn_14 : decode cX4_sumOn 14 = .ok (.invokevirtual 23, 3) := by decide +kernel
theorem dX4_sumOn_17 : decode cX4_sumOn 17 = .ok (.iadd, 1) := by decide +kernel
theorem dX4_sumOn_18 : decode cX4_sumOn 18 = .ok (.istore_n 2, 1) := by decide +kernel
theorem dX4_sumOn_19 : decode cX4_sumOn 19 = .ok (.iinc 3 1, 3) := by decide +kernel
theorem dX4_sumOn_22 : decode cX4_sumOn 22 = .ok (.goto (-18), 3) := by decide +kernel
theorem dX4_sumOn_25 : decode cX4_sumOn 25 = .ok (.iload_n 2, 1) := by decide +kernel
theorem dX4_sumOn_26 : decode cX4_sumOn 26 = .ok (.ireturn, 1) := by decide +kernel
theorem dX4_greatestOn_0 : decode cX4_greatestOn 0 = .ok (.aload_n 0, 1) := by decide +kernel
theorem dX4_greatestOn_1 : decode cX4_greatestOn 1 = .ok (.aload_n 0, 1) := by decide +kernel
theorem dX4_greatestOn_2 : decode cX4_greatestOn 2 = .ok (.iload_n 1, 1) := by decide +kernel
theorem dX4_greatestOn_3 : decode cX4_greatestOn 3 = .ok (.invokevirtual 27, 3) := by decide +kernel
theorem dX4_greatestOn_6 : decode cX4_greatestOn 6 = .ok (.iload_n 1, 1) := by decide +kernel
theorem dX4_greatestOn_7 : decode cX4_greatestOn 7 = .ok (.invokevirtual 23, 3) := by decide +kernel
theorem dX4_greatestOn_10 : decode cX4_greatestOn 10 = .ok (.ireturn, 1) := by decide +kernel
theorem dX4_firstGreatestOn_0 : decode cX4_firstGreatestOn 0 = .ok (.iconst 0, 1) := by decide +kernel
theorem dX4_firstGreatestOn_1 : decode cX4_firstGreatestOn 1 = .ok (.istore_n 2, 1) := by decide +kernel
theorem dX4_firstGreatestOn_2 : decode cX4_firstGreatestOn 2 = .ok (.iconst 1, 1) := by decide +kernel
theorem dX4_firstGreatestOn_3 : decode cX4_firstGreatestOn 3 = .ok (.istore_n 3, 1) := by decide +kernel
theorem dX4_firstGreatestOn_4 : decode cX4_firstGreatestOn 4 = .ok (.iload_n 3, 1) := by decide +kernel
theorem dX4_firstGreatestOn_5 : decode cX4_firstGreatestOn 5 = .ok (.bipush 40, 2) := by decide +kernel
theorem dX4_firstGreatestOn_7 : decode cX4_firstGreatestOn 7 = .ok (.if_icmp .ge 26, 3) := by decide +kernel
theorem dX4_firstGreatestOn_10 : decode cX4_firstGreatestOn 10 = .ok (.aload_n 0, 1) := by decide +kernel
theorem dX4_firstGreatestOn_11 : decode cX4_firstGreatestOn 11 = .ok (.iload_n 3, 1) := by decide +kernel
theorem dX4_firstGreatestOn_12 : decode cX4_firstGreatestOn 12 = .ok (.iload_n 1, 1) := by decide +kernel
theorem dX4_firstGreatestOn_13 : decode cX4_firstGreatestOn 13 = .ok (.invokevirtual 23, 3) := by decide +kernel
theorem dX4_firstGreatestOn_16 : decode cX4_firstGreatestOn 16 = .ok (.aload_n 0, 1) := by decide +kernel
theorem dX4_firstGreatestOn_17 : decode cX4_firstGreatestOn 17 = .ok (.iload_n 2, 1) := by decide +kernel
theorem dX4_firstGreatestOn_18 : decode cX4_firstGreatestOn 18 = .ok (.iload_n 1, 1) := by decide +kernel
theorem dX4_firstGreatestOn_19 : decode cX4_firstGreatestOn 19 = .ok (.invokevirtual 23, 3) := by decide +kernel
theorem dX4_firstGreatestOn_22 : decode cX4_firstGreatestOn 22 = .ok (.if_icmp .le 5, 3) := by decide +kernel
theorem dX4_firstGreatestOn_25 : decode cX4_firstGreatestOn 25 = .ok (.iload_n 3, 1) := by decide +kernel
theorem dX4_firstGreatestOn_26 : decode cX4_firstGreatestOn 26 = .ok (.istore_n 2, 1) := by decide +kernel
theorem dX4_firstGreatestOn_27 : decode cX4_firstGreatestOn 27 = .ok (.iinc 3 1, 3) := by decide +kernel
theorem dX4_firstGreatestOn_30 : decode cX4_firstGreatestOn 30 = .ok (.goto (-26), 3) := by decide +kernel
theorem dX4_firstGreatestOn_33 : decode cX4_firstGreatestOn 33 = .ok (.iload_n 2, 1) := by decide +kernel
theorem dX4_firstGreatestOn_34 : decode cX4_firstGreatestOn 34 = .ok (.ireturn, 1) := by decide +kernel
theorem dX4_cellsReaching_0 : decode cX4_cellsReaching 0 = .ok (.iconst 0, 1) := by decide +kernel
theorem dX4_cellsReaching_1 : decode cX4_cellsReaching 1 = .ok (.istore_n 3, 1) := by decide +kernel
theorem dX4_cellsReaching_2 : decode cX4_cellsReaching 2 = .ok (.iconst 0, 1) := by decide +kernel
theorem dX4_cellsReaching_3 : decode cX4_cellsReaching 3 = .ok (.istore 4, 2) := by decide +kernel
theorem dX4_cellsReaching_5 : decode cX4_cellsReaching 5 = .ok (.iload 4, 2) := by decide +kernel
theorem dX4_cellsReaching_7 : decode cX4_cellsReaching 7 = .ok (.bipush 40, 2) := by decide +kernel
theorem dX4_cellsReaching_9 : decode cX4_cellsReaching 9 = .ok (.if_icmp .ge 23, 3) := by decide +kernel
theorem dX4_cellsReaching_12 : decode cX4_cellsReaching 12 = .ok (.aload_n 0, 1) := by decide +kernel
theorem dX4_cellsReaching_13 : decode cX4_cellsReaching 13 = .ok (.iload 4, 2) := by decide +kernel
theorem dX4_cellsReaching_15 : decode cX4_cellsReaching 15 = .ok (.iload_n 2, 1) := by decide +kernel
theorem dX4_cellsReaching_16 : decode cX4_cellsReaching 16 = .ok (.invokevirtual 23, 3) := by decide +kernel
theorem dX4_cellsReaching_19 : decode cX4_cellsReaching 19 = .ok (.iload_n 1, 1) := by decide +kernel
theorem dX4_cellsReaching_20 : decode cX4_cellsReaching 20 = .ok (.if_icmp .lt 6, 3) := by decide +kernel
theorem dX4_cellsReaching_23 : decode cX4_cellsReaching 23 = .ok (.iinc 3 1, 3) := by decide +kernel
theorem dX4_cellsReaching_26 : decode cX4_cellsReaching 26 = .ok (.iinc 4 1, 3) := by decide +kernel
theorem dX4_cellsReaching_29 : decode cX4_cellsReaching 29 = .ok (.goto (-24), 3) := by decide +kernel
theorem dX4_cellsReaching_32 : decode cX4_cellsReaching 32 = .ok (.iload_n 3, 1) := by decide +kernel
theorem dX4_cellsReaching_33 : decode cX4_cellsReaching 33 = .ok (.ireturn, 1) := by decide +kernel
theorem dX4_longestRowReaching_0 : decode cX4_longestRowReaching 0 = .ok (.iconst 0, 1) := by decide +kernel
theorem dX4_longestRowReaching_1 : decode cX4_longestRowReaching 1 = .ok (.istore_n 3, 1) := by decide +kernel
theorem dX4_longestRowReaching_2 : decode cX4_longestRowReaching 2 = .ok (.iconst 0, 1) := by decide +kernel
theorem dX4_longestRowReaching_3 : decode cX4_longestRowReaching 3 = .ok (.istore 4, 2) := by decide +kernel
theorem dX4_longestRowReaching_5 : decode cX4_longestRowReaching 5 = .ok (.iconst 0, 1) := by decide +kernel
theorem dX4_longestRowReaching_6 : decode cX4_longestRowReaching 6 = .ok (.istore 5, 2) := by decide +kernel
theorem dX4_longestRowReaching_8 : decode cX4_longestRowReaching 8 = .ok (.iload 5, 2) := by decide +kernel
theorem dX4_longestRowReaching_10 : decode cX4_longestRowReaching 10 = .ok (.bipush 40, 2) := by decide +kernel
theorem dX4_longestRowReaching_12 : decode cX4_longestRowReaching 12 = .ok (.if_icmp .ge 37, 3) := by decide +kernel
theorem dX4_longestRowReaching_15 : decode cX4_longestRowReaching 15 = .ok (.aload_n 0, 1) := by decide +kernel
theorem dX4_longestRowReaching_16 : decode cX4_longestRowReaching 16 = .ok (.iload 5, 2) := by decide +kernel
theorem dX4_longestRowReaching_18 : decode cX4_longestRowReaching 18 = .ok (.iload_n 2, 1) := by decide +kernel
theorem dX4_longestRowReaching_19 : decode cX4_longestRowReaching 19 = .ok (.invokevirtual 23, 3) := by decide +kernel
theorem dX4_longestRowReaching_22 : decode cX4_longestRowReaching 22 = .ok (.iload_n 1, 1) := by decide +kernel
theorem dX4_longestRowReaching_23 : decode cX4_longestRowReaching 23 = .ok (.if_icmp .lt 10, 3) := by decide +kernel
theorem dX4_longestRowReaching_26 : decode cX4_longestRowReaching 26 = .ok (.iload 4, 2) := by decide +kernel
theorem dX4_longestRowReaching_28 : decode cX4_longestRowReaching 28 = .ok (.iconst 1, 1) := by decide +kernel
theorem dX4_longestRowReaching_29 : decode cX4_longestRowReaching 29 = .ok (.iadd, 1) := by decide +kernel
theorem dX4_longestRowReaching_30 : decode cX4_longestRowReaching 30 = .ok (.goto 4, 3) := by decide +kernel
theorem dX4_longestRowReaching_33 : decode cX4_longestRowReaching 33 = .ok (.iconst 0, 1) := by decide +kernel
theorem dX4_longestRowReaching_34 : decode cX4_longestRowReaching 34 = .ok (.istore 4, 2) := by decide +kernel
theorem dX4_longestRowReaching_36 : decode cX4_longestRowReaching 36 = .ok (.iload_n 3, 1) := by decide +kernel
theorem dX4_longestRowReaching_37 : decode cX4_longestRowReaching 37 = .ok (.iload 4, 2) := by decide +kernel
theorem dX4_longestRowReaching_39 : decode cX4_longestRowReaching 39 = .ok (.invokestatic 31, 3) := by decide +kernel
theorem dX4_longestRowReaching_42 : decode cX4_longestRowReaching 42 = .ok (.istore_n 3, 1) := by decide +kernel
theorem dX4_longestRowReaching_43 : decode cX4_longestRowReaching 43 = .ok (.iinc 5 1, 3) := by decide +kernel
theorem dX4_longestRowReaching_46 : decode cX4_longestRowReaching 46 = .ok (.goto (-38), 3) := by decide +kernel
theorem dX4_longestRowReaching_49 : decode cX4_longestRowReaching 49 = .ok (.iload_n 3, 1) := by decide +kernel
theorem dX4_longestRowReaching_50 : decode cX4_longestRowReaching 50 = .ok (.ireturn, 1) := by decide +kernel
theorem dX4_steepestOn_0 : decode cX4_steepestOn 0 = .ok (.iconst 0, 1) := by decide +kernel
theorem dX4_steepestOn_1 : decode cX4_steepestOn 1 = .ok (.istore_n 2, 1) := by decide +kernel
theorem dX4_steepestOn_2 : decode cX4_steepestOn 2 = .ok (.iconst 0, 1) := by decide +kernel
theorem dX4_steepestOn_3 : decode cX4_steepestOn 3 = .ok (.istore_n 3, 1) := by decide +kernel
theorem dX4_steepestOn_4 : decode cX4_steepestOn 4 = .ok (.iload_n 3, 1) := by decide +kernel
theorem dX4_steepestOn_5 : decode cX4_steepestOn 5 = .ok (.iconst 1, 1) := by decide +kernel
theorem dX4_steepestOn_6 : decode cX4_steepestOn 6 = .ok (.iadd, 1) := by decide +kernel
theorem dX4_steepestOn_7 : decode cX4_steepestOn 7 = .ok (.bipush 40, 2) := by decide +kernel
theorem dX4_steepestOn_9 : decode cX4_steepestOn 9 = .ok (.if_icmp .ge 36, 3) := by decide +kernel
theorem dX4_steepestOn_12 : decode cX4_steepestOn 12 = .ok (.aload_n 0, 1) := by decide +kernel
theorem dX4_steepestOn_13 : decode cX4_steepestOn 13 = .ok (.iload_n 3, 1) := by decide +kernel
theorem dX4_steepestOn_14 : decode cX4_steepestOn 14 = .ok (.iload_n 1, 1) := by decide +kernel
theorem dX4_steepestOn_15 : decode cX4_steepestOn 15 = .ok (.invokevirtual 23, 3) := by decide +kernel
theorem dX4_steepestOn_18 : decode cX4_steepestOn 18 = .ok (.aload_n 0, 1) := by decide +kernel
theorem dX4_steepestOn_19 : decode cX4_steepestOn 19 = .ok (.iload_n 3, 1) := by decide +kernel
theorem dX4_steepestOn_20 : decode cX4_steepestOn 20 = .ok (.iconst 1, 1) := by decide +kernel
theorem dX4_steepestOn_21 : decode cX4_steepestOn 21 = .ok (.iadd, 1) := by decide +kernel
theorem dX4_steepestOn_22 : decode cX4_steepestOn 22 = .ok (.iload_n 1, 1) := by decide +kernel
theorem dX4_steepestOn_23 : decode cX4_steepestOn 23 = .ok (.invokevirtual 23, 3) := by decide +kernel
theorem dX4_steepestOn_26 : decode cX4_steepestOn 26 = .ok (.isub, 1) := by decide +kernel
theorem dX4_steepestOn_27 : decode cX4_steepestOn 27 = .ok (.istore 4, 2) := by decide +kernel
theorem dX4_steepestOn_29 : decode cX4_steepestOn 29 = .ok (.iload_n 2, 1) := by decide +kernel
theorem dX4_steepestOn_30 : decode cX4_steepestOn 30 = .ok (.iload 4, 2) := by decide +kernel
theorem dX4_steepestOn_32 : decode cX4_steepestOn 32 = .ok (.invokestatic 36, 3) := by decide +kernel
theorem dX4_steepestOn_35 : decode cX4_steepestOn 35 = .ok (.invokestatic 31, 3) := by decide +kernel
theorem dX4_steepestOn_38 : decode cX4_steepestOn 38 = .ok (.istore_n 2, 1) := by decide +kernel
theorem dX4_steepestOn_39 : decode cX4_steepestOn 39 = .ok (.iinc 3 1, 3) := by decide +kernel
theorem dX4_steepestOn_42 : decode cX4_steepestOn 42 = .ok (.goto (-38), 3) := by decide +kernel
theorem dX4_steepestOn_45 : decode cX4_steepestOn 45 = .ok (.iload_n 2, 1) := by decide +kernel
theorem dX4_steepestOn_46 : decode cX4_steepestOn 46 = .ok (.ireturn, 1) := by decide +kernel
theorem dX4_unitsBelow_0 : decode cX4_unitsBelow 0 = .ok (.iconst 0, 1) := by decide +kernel
theorem dX4_unitsBelow_1 : decode cX4_unitsBelow 1 = .ok (.istore_n 2, 1) := by decide +kernel
theorem dX4_unitsBelow_2 : decode cX4_unitsBelow 2 = .ok (.aload_n 0, 1) := by decide +kernel
theorem dX4_unitsBelow_3 : decode cX4_unitsBelow 3 = .ok (.getfield 9, 3) := by decide +kernel
theorem dX4_unitsBelow_6 : decode cX4_unitsBelow 6 = .ok (.astore_n 3, 1) := by decide +kernel
theorem dX4_unitsBelow_7 : decode cX4_unitsBelow 7 = .ok (.aload_n 3, 1) := by decide +kernel
theorem dX4_unitsBelow_8 : decode cX4_unitsBelow 8 = .ok (.arraylength, 1) := by decide +kernel
theorem dX4_unitsBelow_9 : decode cX4_unitsBelow 9 = .ok (.istore 4, 2) := by decide +kernel
theorem dX4_unitsBelow_11 : decode cX4_unitsBelow 11 = .ok (.iconst 0, 1) := by decide +kernel
theorem dX4_unitsBelow_12 : decode cX4_unitsBelow 12 = .ok (.istore 5, 2) := by decide +kernel
theorem dX4_unitsBelow_14 : decode cX4_unitsBelow 14 = .ok (.iload 5, 2) := by decide +kernel
theorem dX4_unitsBelow_16 : decode cX4_unitsBelow 16 = .ok (.iload 4, 2) := by decide +kernel
theorem dX4_unitsBelow_18 : decode cX4_unitsBelow 18 = .ok (.if_icmp .ge 26, 3) := by decide +kernel
theorem dX4_unitsBelow_21 : decode cX4_unitsBelow 21 = .ok (.aload_n 3, 1) := by decide +kernel
theorem dX4_unitsBelow_22 : decode cX4_unitsBelow 22 = .ok (.iload 5, 2) := by decide +kernel
theorem dX4_unitsBelow_24 : decode cX4_unitsBelow 24 = .ok (.iaload, 1) := by decide +kernel
theorem dX4_unitsBelow_25 : decode cX4_unitsBelow 25 = .ok (.istore 6, 2) := by decide +kernel
theorem dX4_unitsBelow_27 : decode cX4_unitsBelow 27 = .ok (.iload_n 2, 1) := by decide +kernel
theorem dX4_unitsBelow_28 : decode cX4_unitsBelow 28 = .ok (.iconst 0, 1) := by decide +kernel
theorem dX4_unitsBelow_29 : decode cX4_unitsBelow 29 = .ok (.iload_n 1, 1) := by decide +kernel
theorem dX4_unitsBelow_30 : decode cX4_unitsBelow 30 = .ok (.iload 6, 2) := by decide +kernel
theorem dX4_unitsBelow_32 : decode cX4_unitsBelow 32 = .ok (.isub, 1) := by decide +kernel
theorem dX4_unitsBelow_33 : decode cX4_unitsBelow 33 = .ok (.invokestatic 31, 3) := by decide +kernel
theorem dX4_unitsBelow_36 : decode cX4_unitsBelow 36 = .ok (.iadd, 1) := by decide +kernel
theorem dX4_unitsBelow_37 : decode cX4_unitsBelow 37 = .ok (.istore_n 2, 1) := by decide +kernel
theorem dX4_unitsBelow_38 : decode cX4_unitsBelow 38 = .ok (.iinc 5 1, 3) := by decide +kernel
theorem dX4_unitsBelow_41 : decode cX4_unitsBelow 41 = .ok (.goto (-27), 3) := by decide +kernel
theorem dX4_unitsBelow_44 : decode cX4_unitsBelow 44 = .ok (.iload_n 2, 1) := by decide +kernel
theorem dX4_unitsBelow_45 : decode cX4_unitsBelow 45 = .ok (.ireturn, 1) := by decide +kernel
theorem dX4_cellBelow_0 : decode cX4_cellBelow 0 = .ok (.iconst 0, 1) := by decide +kernel
theorem dX4_cellBelow_1 : decode cX4_cellBelow 1 = .ok (.istore_n 3, 1) := by decide +kernel
theorem dX4_cellBelow_2 : decode cX4_cellBelow 2 = .ok (.iconst 0, 1) := by decide +kernel
theorem dX4_cellBelow_3 : decode cX4_cellBelow 3 = .ok (.istore 4, 2) := by decide +kernel
theorem dX4_cellBelow_5 : decode cX4_cellBelow 5 = .ok (.iload 4, 2) := by decide +kernel
theorem dX4_cellBelow_7 : decode cX4_cellBelow 7 = .ok (.bipush 40, 2) := by decide +kernel
theorem dX4_cellBelow_9 : decode cX4_cellBelow 9 = .ok (.if_icmp .ge 30, 3) := by decide +kernel
theorem dX4_cellBelow_12 : decode cX4_cellBelow 12 = .ok (.aload_n 0, 1) := by decide +kernel
theorem dX4_cellBelow_13 : decode cX4_cellBelow 13 = .ok (.iload 4, 2) := by decide +kernel
theorem dX4_cellBelow_15 : decode cX4_cellBelow 15 = .ok (.invokevirtual 39, 3) := by decide +kernel
theorem dX4_cellBelow_18 : decode cX4_cellBelow 18 = .ok (.iload_n 1, 1) := by decide +kernel
theorem dX4_cellBelow_19 : decode cX4_cellBelow 19 = .ok (.if_icmp .ge 14, 3) := by decide +kernel
theorem dX4_cellBelow_22 : decode cX4_cellBelow 22 = .ok (.iload_n 3, 1) := by decide +kernel
theorem dX4_cellBelow_23 : decode cX4_cellBelow 23 = .ok (.iload_n 2, 1) := by decide +kernel
theorem dX4_cellBelow_24 : decode cX4_cellBelow 24 = .ok (.if_icmp .ne 6, 3) := by decide +kernel
theorem dX4_cellBelow_27 : decode cX4_cellBelow 27 = .ok (.iload 4, 2) := by decide +kernel
theorem dX4_cellBelow_29 : decode cX4_cellBelow 29 = .ok (.ireturn, 1) := by decide +kernel
theorem dX4_cellBelow_30 : decode cX4_cellBelow 30 = .ok (.iinc 3 1, 3) := by decide +kernel
theorem dX4_cellBelow_33 : decode cX4_cellBelow 33 = .ok (.iinc 4 1, 3) := by decide +kernel
theorem dX4_cellBelow_36 : decode cX4_cellBelow 36 = .ok (.goto (-31), 3) := by decide +kernel
theorem dX4_cellBelow_39 : decode cX4_cellBelow 39 = .ok (.sipush (-1001), 3) := by decide +kernel
theorem dX4_cellBelow_42 : decode cX4_cellBelow 42 = .ok (.ireturn, 1) := by decide +kernel
theorem dX4_lowestIn_0 : decode cX4_lowestIn 0 = .ok (.aload_n 0, 1) := by decide +kernel
theorem dX4_lowestIn_1 : decode cX4_lowestIn 1 = .ok (.iload_n 1, 1) := by decide +kernel
theorem dX4_lowestIn_2 : decode cX4_lowestIn 2 = .ok (.iconst 0, 1) := by decide +kernel
theorem dX4_lowestIn_3 : decode cX4_lowestIn 3 = .ok (.invokevirtual 23, 3) := by decide +kernel
theorem dX4_lowestIn_6 : decode cX4_lowestIn 6 = .ok (.istore_n 2, 1) := by decide +kernel
theorem dX4_lowestIn_7 : decode cX4_lowestIn 7 = .ok (.iconst 1, 1) := by decide +kernel
theorem dX4_lowestIn_8 : decode cX4_lowestIn 8 = .ok (.istore_n 3, 1) := by decide +kernel
theorem dX4_lowestIn_9 : decode cX4_lowestIn 9 = .ok (.iload_n 3, 1) := by decide +kernel
theorem dX4_lowestIn_10 : decode cX4_lowestIn 10 = .ok (.iconst 3, 1) := by decide +kernel
theorem dX4_lowestIn_11 : decode cX4_lowestIn 11 = .ok (.if_icmp .ge 20, 3) := by decide +kernel
theorem dX4_lowestIn_14 : decode cX4_lowestIn 14 = .ok (.iload_n 2, 1) := by decide +kernel
theorem dX4_lowestIn_15 : decode cX4_lowestIn 15 = .ok (.aload_n 0, 1) := by decide +kernel
theorem dX4_lowestIn_16 : decode cX4_lowestIn 16 = .ok (.iload_n 1, 1) := by decide +kernel
theorem dX4_lowestIn_17 : decode cX4_lowestIn 17 = .ok (.iload_n 3, 1) := by decide +kernel
theorem dX4_lowestIn_18 : decode cX4_lowestIn 18 = .ok (.invokevirtual 23, 3) := by decide +kernel
theorem dX4_lowestIn_21 : decode cX4_lowestIn 21 = .ok (.invokestatic 42, 3) := by decide +kernel
theorem dX4_lowestIn_24 : decode cX4_lowestIn 24 = .ok (.istore_n 2, 1) := by decide +kernel
theorem dX4_lowestIn_25 : decode cX4_lowestIn 25 = .ok (.iinc 3 1, 3) := by decide +kernel
theorem dX4_lowestIn_28 : decode cX4_lowestIn 28 = .ok (.goto (-19), 3) := by decide +kernel
theorem dX4_lowestIn_31 : decode cX4_lowestIn 31 = .ok (.iload_n 2, 1) := by decide +kernel
theorem dX4_lowestIn_32 : decode cX4_lowestIn 32 = .ok (.ireturn, 1) := by decide +kernel
theorem dX5_init_0 : decode cX5_init 0 = .ok (.aload_n 0, 1) := by decide +kernel
theorem dX5_init_1 : decode cX5_init 1 = .ok (.invokespecial 3, 3) := by decide +kernel
theorem dX5_init_4 : decode cX5_init 4 = .ok (.aload_n 0, 1) := by decide +kernel
theorem dX5_init_5 : decode cX5_init 5 = .ok (.iconst 3, 1) := by decide +kernel
theorem dX5_init_6 : decode cX5_init 6 = .ok (.putfield 9, 3) := by decide +kernel
theorem dX5_init_9 : decode cX5_init 9 = .ok (.aload_n 0, 1) := by decide +kernel
theorem dX5_init_10 : decode cX5_init 10 = .ok (.iconst (-1), 1) := by decide +kernel
theorem dX5_init_11 : decode cX5_init 11 = .ok (.putfield 15, 3) := by decide +kernel
theorem dX5_init_14 : decode cX5_init 14 = .ok (.aload_n 0, 1) := by decide +kernel
theorem dX5_init_15 : decode cX5_init 15 = .ok (.iconst 0, 1) := by decide +kernel
theorem dX5_init_16 : decode cX5_init 16 = .ok (.putfield 18, 3) := by decide +kernel
theorem dX5_init_19 : decode cX5_init 19 = .ok (.aload_n 0, 1) := by decide +kernel
theorem dX5_init_20 : decode cX5_init 20 = .ok (.iconst 0, 1) := by decide +kernel
theorem dX5_init_21 : decode cX5_init 21 = .ok (.putfield 21, 3) := by decide +kernel
theorem dX5_init_24 : decode cX5_init 24 = .ok (.aload_n 0, 1) := by decide +kernel
theorem dX5_init_25 : decode cX5_init 25 = .ok (.bipush 6, 2) := by decide +kernel
theorem dX5_init_27 : decode cX5_init 27 = .ok (.newarray .int, 2) := by decide +kernel
theorem dX5_init_29 : decode cX5_init 29 = .ok (.putfield 24, 3) := by decide +kernel
theorem dX5_init_32 : decode cX5_init 32 = .ok (.aload_n 0, 1) := by decide +kernel
theorem dX5_init_33 : decode cX5_init 33 = .ok (.bipush 6, 2) := by decide +kernel
theorem dX5_init_35 : decode cX5_init 35 = .ok (.newarray .int, 2) := by decide +kernel
theorem dX5_init_37 : decode cX5_init 37 = .ok (.putfield 28, 3) := by decide +kernel
theorem dX5_init_40 : decode cX5_init 40 = .ok (.aload_n 0, 1) := by decide +kernel
theorem dX5_init_41 : decode cX5_init 41 = .ok (.bipush 18, 2) := by decide +kernel
theorem dX5_init_43 : decode cX5_init 43 = .ok (.newarray .int, 2) := by decide +kernel
theorem dX5_init_45 : decode cX5_init 45 = .ok (.putfield 31, 3) := by decide +kernel
theorem dX5_init_48 : decode cX5_init 48 = .ok (.aload_n 0, 1) := by decide +kernel
theorem dX5_init_49 : decode cX5_init 49 = .ok (.bipush 18, 2) := by decide +kernel
theorem dX5_init_51 : decode cX5_init 51 = .ok (.newarray .int, 2) := by decide +kernel
theorem dX5_init_53 : decode cX5_init 53 = .ok (.putfield 34, 3) := by decide +kernel
theorem dX5_init_56 : decode cX5_init 56 = .ok (.aload_n 0, 1) := by decide +kernel
theorem dX5_init_57 : decode cX5_init 57 = .ok (.getfield 34, 3) := by decide +kernel
theorem dX5_init_60 : decode cX5_init 60 = .ok (.sipush (-1001), 3) := by decide +kernel
theorem dX5_init_63 : decode cX5_init 63 = .ok (.invokestatic 37, 3) := by decide +kernel
theorem dX5_init_66 : decode cX5_init 66 = .ok (.return_, 1) := by decide +kernel
theorem dX5_replace_0 : decode cX5_replace 0 = .ok (.aload_n 0, 1) := by decide +kernel
theorem dX5_replace_1 : decode cX5_replace 1 = .ok (.iload_n 1, 1) := by decide +kernel
theorem dX5_replace_2 : decode cX5_replace 2 = .ok (.putfield 9, 3) := by decide +kernel
theorem dX5_replace_5 : decode cX5_replace 5 = .ok (.aload_n 0, 1) := by decide +kernel
theorem dX5_replace_6 : decode cX5_replace 6 = .ok (.iconst (-1), 1) := by decide +kernel
theorem dX5_replace_7 : decode cX5_replace 7 = .ok (.putfield 15, 3) := by decide +kernel
theorem dX5_replace_10 : decode cX5_replace 10 = .ok (.aload_n 0, 1) := by decide +kernel
theorem dX5_replace_11 : decode cX5_replace 11 = .ok (.iconst 0, 1) := by decide +kernel
theorem dX5_replace_12 : decode cX5_replace 12 = .ok (.putfield 18, 3) := by decide +kernel
theorem dX5_replace_15 : decode cX5_replace 15 = .ok (.aload_n 0, 1) := by decide +kernel
theorem dX5_replace_16 : decode cX5_replace 16 = .ok (.iconst 0, 1) := by decide +kernel
theorem dX5_replace_17 : decode cX5_replace 17 = .ok (.putfield 21, 3) := by decide +kernel
theorem dX5_replace_20 : decode cX5_replace 20 = .ok (.aload_n 0, 1) := by decide +kernel
theorem dX5_replace_21 : decode cX5_replace 21 = .ok (.getfield 24, 3) := by decide +kernel
theorem dX5_replace_24 : decode cX5_replace 24 = .ok (.iconst 0, 1) := by decide +kernel
theorem dX5_replace_25 : decode cX5_replace 25 = .ok (.invokestatic 37, 3) := by decide +kernel
theorem dX5_replace_28 : decode cX5_replace 28 = .ok (.aload_n 0, 1) := by decide +kernel
theorem dX5_replace_29 : decode cX5_replace 29 = .ok (.getfield 28, 3) := by decide +kernel
theorem dX5_replace_32 : decode cX5_replace 32 = .ok (.iconst 0, 1) := by decide +kernel
theorem dX5_replace_33 : decode cX5_replace 33 = .ok (.invokestatic 37, 3) := by decide +kernel
theorem dX5_replace_36 : decode cX5_replace 36 = .ok (.aload_n 0, 1) := by decide +kernel
theorem dX5_replace_37 : decode cX5_replace 37 = .ok (.getfield 31, 3) := by decide +kernel
theorem dX5_replace_40 : decode cX5_replace 40 = .ok (.iconst 0, 1) := by decide +kernel
theorem dX5_replace_41 : decode cX5_replace 41 = .ok (.invokestatic 37, 3) := by decide +kernel
theorem dX5_replace_44 : decode cX5_replace 44 = .ok (.aload_n 0, 1) := by decide +kernel
theorem dX5_replace_45 : decode cX5_replace 45 = .ok (.getfield 34, 3) := by decide +kernel
theorem dX5_replace_48 : decode cX5_replace 48 = .ok (.sipush (-1001), 3) := by decide +kernel
theorem dX5_replace_51 : decode cX5_replace 51 = .ok (.invokestatic 37, 3) := by decide +kernel
theorem dX5_replace_54 : decode cX5_replace 54 = .ok (.return_, 1) := by decide +kernel
theorem dX5_copyFrom_0 : decode cX5_copyFrom 0 = .ok (.aload_n 0, 1) := by decide +kernel
theorem dX5_copyFrom_1 : decode cX5_copyFrom 1 = .ok (.aload_n 1, 1) := by decide +kernel
theorem dX5_copyFrom_2 : decode cX5_copyFrom 2 = .ok (.getfield 9, 3) := by decide +kernel
theorem dX5_copyFrom_5 : decode cX5_copyFrom 5 = .ok (.putfield 9, 3) := by decide +kernel
theorem dX5_copyFrom_8 : decode cX5_copyFrom 8 = .ok (.aload_n 0, 1) := by decide +kernel
theorem dX5_copyFrom_9 : decode cX5_copyFrom 9 = .ok (.aload_n 1, 1) := by decide +kernel
theorem dX5_copyFrom_10 : decode cX5_copyFrom 10 = .ok (.getfield 15, 3) := by decide +kernel
theorem dX5_copyFrom_13 : decode cX5_copyFrom 13 = .ok (.putfield 15, 3) := by decide +kernel
theorem dX5_copyFrom_16 : decode cX5_copyFrom 16 = .ok (.aload_n 0, 1) := by decide +kernel
theorem dX5_copyFrom_17 : decode cX5_copyFrom 17 = .ok (.aload_n 1, 1) := by decide +kernel
theorem dX5_copyFrom_18 : decode cX5_copyFrom 18 = .ok (.getfield 18, 3) := by decide +kernel
theorem dX5_copyFrom_21 : decode cX5_copyFrom 21 = .ok (.putfield 18, 3) := by decide +kernel
theorem dX5_copyFrom_24 : decode cX5_copyFrom 24 = .ok (.aload_n 0, 1) := by decide +kernel
theorem dX5_copyFrom_25 : decode cX5_copyFrom 25 = .ok (.aload_n 1, 1) := by decide +kernel
theorem dX5_copyFrom_26 : decode cX5_copyFrom 26 = .ok (.getfield 21, 3) := by decide +kernel
theorem dX5_copyFrom_29 : decode cX5_copyFrom 29 = .ok (.putfield 21, 3) := by decide +kernel
theorem dX5_copyFrom_32 : decode cX5_copyFrom 32 = .ok (.aload_n 1, 1) := by decide +kernel
theorem dX5_copyFrom_33 : decode cX5_copyFrom 33 = .ok (.getfield 24, 3) := by decide +kernel
theorem dX5_copyFrom_36 : decode cX5_copyFrom 36 = .ok (.aload_n 0, 1) := by decide +kernel
theorem dX5_copyFrom_37 : decode cX5_copyFrom 37 = .ok (.getfield 24, 3) := by decide +kernel
theorem dX5_copyFrom_40 : decode cX5_copyFrom 40 = .ok (.invokestatic 43, 3) := by decide +kernel
theorem dX5_copyFrom_43 : decode cX5_copyFrom 43 = .ok (.aload_n 1, 1) := by decide +kernel
theorem dX5_copyFrom_44 : decode cX5_copyFrom 44 = .ok (.getfield 28, 3) := by decide +kernel
theorem dX5_copyFrom_47 : decode cX5_copyFrom 47 = .ok (.aload_n 0, 1) := by decide +kernel
theorem dX5_copyFrom_48 : decode cX5_copyFrom 48 = .ok (.getfield 28, 3) := by decide +kernel
theorem dX5_copyFrom_51 : decode cX5_copyFrom 51 = .ok (.invokestatic 43, 3) := by decide +kernel
theorem dX5_copyFrom_54 : decode cX5_copyFrom 54 = .ok (.aload_n 1, 1) := by decide +kernel
theorem dX5_copyFrom_55 : decode cX5_copyFrom 55 = .ok (.getfield 31, 3) := by decide +kernel
theorem dX5_copyFrom_58 : decode cX5_copyFrom 58 = .ok (.aload_n 0, 1) := by decide +kernel
theorem dX5_copyFrom_59 : decode cX5_copyFrom 59 = .ok (.getfield 31, 3) := by decide +kernel
theorem dX5_copyFrom_62 : decode cX5_copyFrom 62 = .ok (.invokestatic 43, 3) := by decide +kernel
theorem dX5_copyFrom_65 : decode cX5_copyFrom 65 = .ok (.aload_n 1, 1) := by decide +kernel
theorem dX5_copyFrom_66 : decode cX5_copyFrom 66 = .ok (.getfield 34, 3) := by decide +kernel
theorem dX5_copyFrom_69 : decode cX5_copyFrom 69 = .ok (.aload_n 0, 1) := by decide +kernel
theorem dX5_copyFrom_70 : decode cX5_copyFrom 70 = .ok (.getfield 34, 3) := by decide +kernel
theorem dX5_copyFrom_73 : decode cX5_copyFrom 73 = .ok (.invokestatic 43, 3) := by decide +kernel
theorem dX5_copyFrom_76 : decode cX5_copyFrom 76 = .ok (.return_, 1) := by decide +kernel
theorem dX5_hasWagon_0 : decode cX5_hasWagon 0 = .ok (.iload_n 1, 1) := by decide +kernel
theorem dX5_hasWagon_1 : decode cX5_hasWagon 1 = .ok (.ifCond .lt 21, 3) := by decide +kernel
theorem dX5_hasWagon_4 : decode cX5_hasWagon 4 = .ok (.iload_n 1, 1) := by decide +kernel
theorem dX5_hasWagon_5 : decode cX5_hasWagon 5 = .ok (.aload_n 0, 1) := by decide +kernel
theorem dX5_hasWagon_6 : decode cX5_hasWagon 6 = .ok (.getfield 9, 3) := by decide +kernel
theorem dX5_hasWagon_9 : decode cX5_hasWagon 9 = .ok (.if_icmp .ge 13, 3) := by decide +kernel
theorem dX5_hasWagon_12 : decode cX5_hasWagon 12 = .ok (.iload_n 1, 1) := by decide +kernel
theorem dX5_hasWagon_13 : decode cX5_hasWagon 13 = .ok (.bipush 6, 2) := by decide +kernel
theorem dX5_hasWagon_15 : decode cX5_hasWagon 15 = .ok (.if_icmp .ge 7, 3) := by decide +kernel
theorem dX5_hasWagon_18 : decode cX5_hasWagon 18 = .ok (.iconst 1, 1) := by decide +kernel
theorem dX5_hasWagon_19 : decode cX5_hasWagon 19 = .ok (.goto 4, 3) := by decide +kernel
theorem dX5_hasWagon_22 : decode cX5_hasWagon 22 = .ok (.iconst 0, 1) := by decide +kernel
theorem dX5_hasWagon_23 : decode cX5_hasWagon 23 = .ok (.ireturn, 1) := by decide +kernel
theorem dX5_hasDoor_0 : decode cX5_hasDoor 0 = .ok (.iload_n 1, 1) := by decide +kernel
theorem dX5_hasDoor_1 : decode cX5_hasDoor 1 = .ok (.ifCond .lt 30, 3) := by decide +kernel
theorem dX5_hasDoor_4 : decode cX5_hasDoor 4 = .ok (.iload_n 1, 1) := by decide +kernel
theorem dX5_hasDoor_5 : decode cX5_hasDoor 5 = .ok (.aload_n 0, 1) := by decide +kernel
theorem dX5_hasDoor_6 : decode cX5_hasDoor 6 = .ok (.getfield 9, 3) := by decide +kernel
theorem dX5_hasDoor_9 : decode cX5_hasDoor 9 = .ok (.if_icmp .ge 22, 3) := by decide +kernel
theorem dX5_hasDoor_12 : decode cX5_hasDoor 12 = .ok (.iload_n 1, 1) := by decide +kernel
theorem dX5_hasDoor_13 : decode cX5_hasDoor 13 = .ok (.bipush 6, 2) := by decide +kernel
theorem dX5_hasDoor_15 : decode cX5_hasDoor 15 = .ok (.if_icmp .ge 16, 3) := by decide +kernel
theorem dX5_hasDoor_18 : decode cX5_hasDoor 18 = .ok (.iload_n 2, 1) := by decide +kernel
theorem dX5_hasDoor_19 : decode cX5_hasDoor 19 = .ok (.ifCond .lt 12, 3) := by decide +kernel
theorem dX5_hasDoor_22 : decode cX5_hasDoor 22 = .ok (.iload_n 2, 1) := by decide +kernel
theorem dX5_hasDoor_23 : decode cX5_hasDoor 23 = .ok (.iconst 3, 1) := by decide +kernel
theorem dX5_hasDoor_24 : decode cX5_hasDoor 24 = .ok (.if_icmp .ge 7, 3) := by decide +kernel
theorem dX5_hasDoor_27 : decode cX5_hasDoor 27 = .ok (.iconst 1, 1) := by decide +kernel
theorem dX5_hasDoor_28 : decode cX5_hasDoor 28 = .ok (.goto 4, 3) := by decide +kernel
theorem dX5_hasDoor_31 : decode cX5_hasDoor 31 = .ok (.iconst 0, 1) := by decide +kernel
theorem dX5_hasDoor_32 : decode cX5_hasDoor 32 = .ok (.ireturn, 1) := by decide +kernel
theorem dX5_levelOf_0 : decode cX5_levelOf 0 = .ok (.aload_n 0, 1) := by decide +kernel
theorem dX5_levelOf_1 : decode cX5_levelOf 1 = .ok (.iload_n 1, 1) := by decide +kernel
theorem dX5_levelOf_2 : decode cX5_levelOf 2 = .ok (.iload_n 2, 1) := by decide +kernel
theorem dX5_levelOf_3 : decode cX5_levelOf 3 = .ok (.invokevirtual 47, 3) := by decide +kernel
theorem dX5_levelOf_6 : decode cX5_levelOf 6 = .ok (.ifCond .eq 16, 3) := by decide +kernel
theorem dX5_levelOf_9 : decode cX5_levelOf 9 = .ok (.aload_n 0, 1) := by decide +kernel
theorem dX5_levelOf_10 : decode cX5_levelOf 10 = .ok (.getfield 31, 3) := by decide +kernel
theorem dX5_levelOf_13 : decode cX5_levelOf 13 = .ok (.iconst 3, 1) := by decide +kernel
theorem dX5_levelOf_14 : decode cX5_levelOf 14 = .ok (.iload_n 1, 1) := by decide +kernel
theorem dX5_levelOf_15 : decode cX5_levelOf 15 = .ok (.imul, 1) := by decide +kernel
theorem dX5_levelOf_16 : decode cX5_levelOf 16 = .ok (.iload_n 2, 1) := by decide +kernel
theorem dX5_levelOf_17 : decode cX5_levelOf 17 = .ok (.iadd, 1) := by decide +kernel
theorem dX5_levelOf_18 : decode cX5_levelOf 18 = .ok (.iaload, 1) := by decide +kernel
theorem dX5_levelOf_19 : decode cX5_levelOf 19 = .ok (.goto 4, 3) := by decide +kernel
theorem dX5_levelOf_22 : decode cX5_levelOf 22 = .ok (.iconst 0, 1) := by decide +kernel
theorem dX5_levelOf_23 : decode cX5_levelOf 23 = .ok (.ireturn, 1) := by decide +kernel
theorem dX5_restOf_0 : decode cX5_restOf 0 = .ok (.aload_n 0, 1) := by decide +kernel
theorem dX5_restOf_1 : decode cX5_restOf 1 = .ok (.iload_n 1, 1) := by decide +kernel
theorem dX5_restOf_2 : decode cX5_restOf 2 = .ok (.iload_n 2, 1) := by decide +kernel
theorem dX5_restOf_3 : decode cX5_restOf 3 = .ok (.invokevirtual 47, 3) := by decide +kernel
theorem dX5_restOf_6 : decode cX5_restOf 6 = .ok (.ifCond .eq 16, 3) := by decide +kernel
theorem dX5_restOf_9 : decode cX5_restOf 9 = .ok (.aload_n 0, 1) := by decide +kernel
theorem dX5_restOf_10 : decode cX5_restOf 10 = .ok (.getfield 34, 3) := by decide +kernel
theorem dX5_restOf_13 : decode cX5_restOf 13 = .ok (.iconst 3, 1) := by decide +kernel
theorem dX5_restOf_14 : decode cX5_restOf 14 = .ok (.iload_n 1, 1) := by decide +kernel
theorem dX5_restOf_15 : decode cX5_restOf 15 = .ok (.imul, 1) := by decide +kernel
theorem dX5_restOf_16 : decode cX5_restOf 16 = .ok (.iload_n 2, 1) := by decide +kernel
theorem dX5_restOf_17 : decode cX5_restOf 17 = .ok (.iadd, 1) := by decide +kernel
theorem dX5_restOf_18 : decode cX5_restOf 18 = .ok (.iaload, 1) := by decide +kernel
theorem dX5_restOf_19 : decode cX5_restOf 19 = .ok (.goto 6, 3) := by decide +kernel
theorem dX5_restOf_22 : decode cX5_restOf 22 = .ok (.sipush (-1001), 3) := by decide +kernel
theorem dX5_restOf_25 : decode cX5_restOf 25 = .ok (.ireturn, 1) := by decide +kernel
theorem dX5_cellBelow_0 : decode cX5_cellBelow 0 = .ok (.aload_n 0, 1) := by decide +kernel
theorem dX5_cellBelow_1 : decode cX5_cellBelow 1 = .ok (.getfield 15, 3) := by decide +kernel
theorem dX5_cellBelow_4 : decode cX5_cellBelow 4 = .ok (.iconst 4, 1) := by decide +kernel
theorem dX5_cellBelow_5 : decode cX5_cellBelow 5 = .ok (.iload_n 1, 1) := by decide +kernel
theorem dX5_cellBelow_6 : decode cX5_cellBelow 6 = .ok (.imul, 1) := by decide +kernel
theorem dX5_cellBelow_7 : decode cX5_cellBelow 7 = .ok (.isub, 1) := by decide +kernel
theorem dX5_cellBelow_8 : decode cX5_cellBelow 8 = .ok (.ireturn, 1) := by decide +kernel
theorem dX5_units_0 : decode cX5_units 0 = .ok (.aload_n 0, 1) := by decide +kernel
theorem dX5_units_1 : decode cX5_units 1 = .ok (.getfield 24, 3) := by decide +kernel
theorem dX5_units_4 : decode cX5_units 4 = .ok (.invokestatic 51, 3) := by decide +kernel
theorem dX5_units_7 : decode cX5_units 7 = .ok (.ireturn, 1) := by decide +kernel
theorem dX5_sumOfLevels_0 : decode cX5_sumOfLevels 0 = .ok (.iconst 0, 1) := by decide +kernel
theorem dX5_sumOfLevels_1 : decode cX5_sumOfLevels 1 = .ok (.istore_n 2, 1) := by decide +kernel
theorem dX5_sumOfLevels_2 : decode cX5_sumOfLevels 2 = .ok (.iconst 0, 1) := by decide +kernel
theorem dX5_sumOfLevels_3 : decode cX5_sumOfLevels 3 = .ok (.istore_n 3, 1) := by decide +kernel
theorem dX5_sumOfLevels_4 : decode cX5_sumOfLevels 4 = .ok (.iload_n 3, 1) := by decide +kernel
theorem dX5_sumOfLevels_5 : decode cX5_sumOfLevels 5 = .ok (.iconst 3, 1) := by decide +kernel
theorem dX5_sumOfLevels_6 : decode cX5_sumOfLevels 6 = .ok (.if_icmp .ge 18, 3) := by decide +kernel
theorem dX5_sumOfLevels_9 : decode cX5_sumOfLevels 9 = .ok (.iload_n 2, 1) := by decide +kernel
theorem dX5_sumOfLevels_10 : decode cX5_sumOfLevels 10 = .ok (.aload_n 0, 1) := by decide +kernel
theorem dX5_sumOfLevels_11 : decode cX5_sumOfLevels 11 = .ok (.iload_n 1, 1) := by decide +kernel
theorem dX5_sumOfLevels_12 : decode cX5_sumOfLevels 12 = .ok (.iload_n 3, 1) := by decide +kernel
theorem dX5_sumOfLevels_13 : decode cX5_sumOfLevels 13 = .ok (.invokevirtual 55, 3) := by decide +kernel
theorem dX5_sumOfLevels_16 : decode cX5_sumOfLevels 16 = .ok (.iadd, 1) := by decide +kernel
theorem dX5_sumOfLevels_17 : decode cX5_sumOfLevels 17 = .ok (.istore_n 2, 1) := by decide +kernel
theorem dX5_sumOfLevels_18 : decode cX5_sumOfLevels 18 = .ok (.iinc 3 1, 3) := by decide +kernel
theorem dX5_sumOfLevels_21 : decode cX5_sumOfLevels 21 = .ok (.goto (-17), 3) := by decide +kernel
theorem dX5_sumOfLevels_24 : decode cX5_sumOfLevels 24 = .ok (.iload_n 2, 1) := by decide +kernel
theorem dX5_sumOfLevels_25 : decode cX5_sumOfLevels 25 = .ok (.ireturn, 1) := by decide +kernel
theorem dX5_closingDoors_0 : decode cX5_closingDoors 0 = .ok (.iconst 0, 1) := by decide +kernel
theorem dX5_closingDoors_1 : decode cX5_closingDoors 1 = .ok (.istore_n 2, 1) := by decide +kernel
theorem dX5_closingDoors_2 : decode cX5_closingDoors 2 = .ok (.iconst 0, 1) := by decide +kernel
theorem dX5_closingDoors_3 : decode cX5_closingDoors 3 = .ok (.istore_n 3, 1) := by decide +kernel
theorem dX5_closingDoors_4 : decode cX5_closingDoors 4 = .ok (.iload_n 3, 1) := by decide +kernel
theorem dX5_closingDoors_5 : decode cX5_closingDoors 5 = .ok (.iconst 3, 1) := by decide +kernel
theorem dX5_closingDoors_6 : decode cX5_closingDoors 6 = .ok (.if_icmp .ge 24, 3) := by decide +kernel
theorem dX5_closingDoors_9 : decode cX5_closingDoors 9 = .ok (.aload_n 0, 1) := by decide +kernel
theorem dX5_closingDoors_10 : decode cX5_closingDoors 10 = .ok (.iload_n 1, 1) := by decide +kernel
theorem dX5_closingDoors_11 : decode cX5_closingDoors 11 = .ok (.iload_n 3, 1) := by decide +kernel
theorem dX5_closingDoors_12 : decode cX5_closingDoors 12 = .ok (.invokevirtual 59, 3) := by decide +kernel
theorem dX5_closingDoors_15 : decode cX5_closingDoors 15 = .ok (.sipush (-1001), 3) := by decide +kernel
theorem dX5_closingDoors_18 : decode cX5_closingDoors 18 = .ok (.if_icmp .eq 6, 3) := by decide +kernel
theorem dX5_closingDoors_21 : decode cX5_closingDoors 21 = .ok (.iinc 2 1, 3) := by decide +kernel
theorem dX5_closingDoors_24 : decode cX5_closingDoors 24 = .ok (.iinc 3 1, 3) := by decide +kernel
theorem dX5_closingDoors_27 : decode cX5_closingDoors 27 = .ok (.goto (-23), 3) := by decide +kernel
theorem dX5_closingDoors_30 : decode cX5_closingDoors 30 = .ok (.iload_n 2, 1) := by decide +kernel
theorem dX5_closingDoors_31 : decode cX5_closingDoors 31 = .ok (.ireturn, 1) := by decide +kernel
theorem dX5_openDoor_0 : decode cX5_openDoor 0 = .ok (.aload_n 0, 1) := by decide +kernel
theorem dX5_openDoor_1 : decode cX5_openDoor 1 = .ok (.iload_n 1, 1) := by decide +kernel
theorem dX5_openDoor_2 : decode cX5_openDoor 2 = .ok (.iload_n 2, 1) := by decide +kernel
theorem dX5_openDoor_3 : decode cX5_openDoor 3 = .ok (.invokevirtual 47, 3) := by decide +kernel
theorem dX5_openDoor_6 : decode cX5_openDoor 6 = .ok (.ifCond .eq 27, 3) := by decide +kernel
theorem dX5_openDoor_9 : decode cX5_openDoor 9 = .ok (.aload_n 0, 1) := by decide +kernel
theorem dX5_openDoor_10 : decode cX5_openDoor 10 = .ok (.getfield 31, 3) := by decide +kernel
theorem dX5_openDoor_13 : decode cX5_openDoor 13 = .ok (.iconst 3, 1) := by decide +kernel
theorem dX5_openDoor_14 : decode cX5_openDoor 14 = .ok (.iload_n 1, 1) := by decide +kernel
theorem dX5_openDoor_15 : decode cX5_openDoor 15 = .ok (.imul, 1) := by decide +kernel
theorem dX5_openDoor_16 : decode cX5_openDoor 16 = .ok (.iload_n 2, 1) := by decide +kernel
theorem dX5_openDoor_17 : decode cX5_openDoor 17 = .ok (.iadd, 1) := by decide +kernel
theorem dX5_openDoor_18 : decode cX5_openDoor 18 = .ok (.iload_n 3, 1) := by decide +kernel
theorem dX5_openDoor_19 : decode cX5_openDoor 19 = .ok (.iastore, 1) := by decide +kernel
theorem dX5_openDoor_20 : decode cX5_openDoor 20 = .ok (.aload_n 0, 1) := by decide +kernel
theorem dX5_openDoor_21 : decode cX5_openDoor 21 = .ok (.getfield 34, 3) := by decide +kernel
theorem dX5_openDoor_24 : decode cX5_openDoor 24 = .ok (.iconst 3, 1) := by decide +kernel
theorem dX5_openDoor_25 : decode cX5_openDoor 25 = .ok (.iload_n 1, 1) := by decide +kernel
theorem dX5_openDoor_26 : decode cX5_openDoor 26 = .ok (.imul, 1) := by decide +kernel
theorem dX5_openDoor_27 : decode cX5_openDoor 27 = .ok (.iload_n 2, 1) := by decide +kernel
theorem dX5_openDoor_28 : decode cX5_openDoor 28 = .ok (.iadd, 1) := by decide +kernel
theorem dX5_openDoor_29 : decode cX5_openDoor 29 = .ok (.sipush (-1001), 3) := by decide +kernel
theorem dX5_openDoor_32 : decode cX5_openDoor 32 = .ok (.iastore, 1) := by decide +kernel
theorem dX5_openDoor_33 : decode cX5_openDoor 33 = .ok (.return_, 1) := by decide +kernel
theorem dX5_closeDoor_0 : decode cX5_closeDoor 0 = .ok (.aload_n 0, 1) := by decide +kernel
theorem dX5_closeDoor_1 : decode cX5_closeDoor 1 = .ok (.iload_n 1, 1) := by decide +kernel
theorem dX5_closeDoor_2 : decode cX5_closeDoor 2 = .ok (.iload_n 2, 1) := by decide +kernel
theorem dX5_closeDoor_3 : decode cX5_closeDoor 3 = .ok (.invokevirtual 47, 3) := by decide +kernel
theorem dX5_closeDoor_6 : decode cX5_closeDoor 6 = .ok (.ifCond .eq 27, 3) := by decide +kernel
theorem dX5_closeDoor_9 : decode cX5_closeDoor 9 = .ok (.aload_n 0, 1) := by decide +kernel
theorem dX5_closeDoor_10 : decode cX5_closeDoor 10 = .ok (.getfield 31, 3) := by decide +kernel
theorem dX5_closeDoor_13 : decode cX5_closeDoor 13 = .ok (.iconst 3, 1) := by decide +kernel
theorem dX5_closeDoor_14 : decode cX5_closeDoor 14 = .ok (.iload_n 1, 1) := by decide +kernel
theorem dX5_closeDoor_15 : decode cX5_closeDoor 15 = .ok (.imul, 1) := by decide +kernel
theorem dX5_closeDoor_16 : decode cX5_closeDoor 16 = .ok (.iload_n 2, 1) := by decide +kernel
theorem dX5_closeDoor_17 : decode cX5_closeDoor 17 = .ok (.iadd, 1) := by decide +kernel
theorem dX5_closeDoor_18 : decode cX5_closeDoor 18 = .ok (.iaload, 1) := by decide +kernel
theorem dX5_closeDoor_19 : decode cX5_closeDoor 19 = .ok (.ifCond .eq 14, 3) := by decide +kernel
theorem dX5_closeDoor_22 : decode cX5_closeDoor 22 = .ok (.aload_n 0, 1) := by decide +kernel
theorem dX5_closeDoor_23 : decode cX5_closeDoor 23 = .ok (.getfield 34, 3) := by decide +kernel
theorem dX5_closeDoor_26 : decode cX5_closeDoor 26 = .ok (.iconst 3, 1) := by decide +kernel
theorem dX5_closeDoor_27 : decode cX5_closeDoor 27 = .ok (.iload_n 1, 1) := by decide +kernel
theorem dX5_closeDoor_28 : decode cX5_closeDoor 28 = .ok (.imul, 1) := by decide +kernel
theorem dX5_closeDoor_29 : decode cX5_closeDoor 29 = .ok (.iload_n 2, 1) := by decide +kernel
theorem dX5_closeDoor_30 : decode cX5_closeDoor 30 = .ok (.iadd, 1) := by decide +kernel
theorem dX5_closeDoor_31 : decode cX5_closeDoor 31 = .ok (.iload_n 3, 1) := by decide +kernel
theorem dX5_closeDoor_32 : decode cX5_closeDoor 32 = .ok (.iastore, 1) := by decide +kernel
theorem dX5_closeDoor_33 : decode cX5_closeDoor 33 = .ok (.return_, 1) := by decide +kernel
theorem dX5_move_0 : decode cX5_move 0 = .ok (.aload_n 0, 1) := by decide +kernel
theorem dX5_move_1 : decode cX5_move 1 = .ok (.getfield 18, 3) := by decide +kernel
theorem dX5_move_4 : decode cX5_move 4 = .ok (.aload_n 0, 1) := by decide +kernel
theorem dX5_move_5 : decode cX5_move 5 = .ok (.getfield 21, 3) := by decide +kernel
theorem dX5_move_8 : decode cX5_move 8 = .ok (.if_icmp .ge 16, 3) := by decide +kernel
theorem dX5_move_11 : decode cX5_move 11 = .ok (.aload_n 0, 1) := by decide +kernel
theorem dX5_move_12 : decode cX5_move 12 = .ok (.dup, 1) := by decide +kernel
theorem dX5_move_13 : decode cX5_move 13 = .ok (.getfield 18, 3) := by decide +kernel
theorem dX5_move_16 : decode cX5_move 16 = .ok (.iconst 1, 1) := by decide +kernel
theorem dX5_move_17 : decode cX5_move 17 = .ok (.iadd, 1) := by decide +kernel
theorem dX5_move_18 : decode cX5_move 18 = .ok (.putfield 18, 3) := by decide +kernel
theorem dX5_move_21 : decode cX5_move 21 = .ok (.goto 24, 3) := by decide +kernel
theorem dX5_move_24 : decode cX5_move 24 = .ok (.aload_n 0, 1) := by decide +kernel
theorem dX5_move_25 : decode cX5_move 25 = .ok (.getfield 18, 3) := by decide +kernel
theorem dX5_move_28 : decode cX5_move 28 = .ok (.aload_n 0, 1) := by decide +kernel
theorem dX5_move_29 : decode cX5_move 29 = .ok (.getfield 21, 3) := by decide +kernel
theorem dX5_move_32 : decode cX5_move 32 = .ok (.if_icmp .le 13, 3) := by decide +kernel
theorem dX5_move_35 : decode cX5_move 35 = .ok (.aload_n 0, 1) := by decide +kernel
theorem dX5_move_36 : decode cX5_move 36 = .ok (.dup, 1) := by decide +kernel
theorem dX5_move_37 : decode cX5_move 37 = .ok (.getfield 18, 3) := by decide +kernel
theorem dX5_move_40 : decode cX5_move 40 = .ok (.iconst 1, 1) := by decide +kernel
theorem dX5_move_41 : decode cX5_move 41 = .ok (.isub, 1) := by decide +kernel
theorem dX5_move_42 : decode cX5_move 42 = .ok (.putfield 18, 3) := by decide +kernel
theorem dX5_move_45 : decode cX5_move 45 = .ok (.aload_n 0, 1) := by decide +kernel
theorem dX5_move_46 : decode cX5_move 46 = .ok (.aload_n 0, 1) := by decide +kernel
theorem dX5_move_47 : decode cX5_move 47 = .ok (.getfield 15, 3) := by decide +kernel
theorem dX5_move_50 : decode cX5_move 50 = .ok (.aload_n 0, 1) := by decide +kernel
theorem dX5_move_51 : decode cX5_move 51 = .ok (.getfield 18, 3) := by decide +kernel
theorem dX5_move_54 : decode cX5_move 54 = .ok (.iadd, 1) := by decide +kernel
theorem dX5_move_55 : decode cX5_move 55 = .ok (.bipush 99, 2) := by decide +kernel
theorem dX5_move_57 : decode cX5_move 57 = .ok (.invokestatic 62, 3) := by decide +kernel
theorem dX5_move_60 : decode cX5_move 60 = .ok (.putfield 15, 3) := by decide +kernel
theorem dX5_move_63 : decode cX5_move 63 = .ok (.return_, 1) := by decide +kernel
theorem dX5_drop_0 : decode cX5_drop 0 = .ok (.aload_n 0, 1) := by decide +kernel
theorem dX5_drop_1 : decode cX5_drop 1 = .ok (.iload_n 1, 1) := by decide +kernel
theorem dX5_drop_2 : decode cX5_drop 2 = .ok (.iload_n 2, 1) := by decide +kernel
theorem dX5_drop_3 : decode cX5_drop 3 = .ok (.invokevirtual 47, 3) := by decide +kernel
theorem dX5_drop_6 : decode cX5_drop 6 = .ok (.ifCond .ne 5, 3) := by decide +kernel
theorem dX5_drop_9 : decode cX5_drop 9 = .ok (.iconst 0, 1) := by decide +kernel
theorem dX5_drop_10 : decode cX5_drop 10 = .ok (.ireturn, 1) := by decide +kernel
theorem dX5_drop_11 : decode cX5_drop 11 = .ok (.aload_n 0, 1) := by decide +kernel
theorem dX5_drop_12 : decode cX5_drop 12 = .ok (.getfield 31, 3) := by decide +kernel
theorem dX5_drop_15 : decode cX5_drop 15 = .ok (.iconst 3, 1) := by decide +kernel
theorem dX5_drop_16 : decode cX5_drop 16 = .ok (.iload_n 1, 1) := by decide +kernel
theorem dX5_drop_17 : decode cX5_drop 17 = .ok (.imul, 1) := by decide +kernel
theorem dX5_drop_18 : decode cX5_drop 18 = .ok (.iload_n 2, 1) := by decide +kernel
theorem dX5_drop_19 : decode cX5_drop 19 = .ok (.iadd, 1) := by decide +kernel
theorem dX5_drop_20 : decode cX5_drop 20 = .ok (.iaload, 1) := by decide +kernel
theorem dX5_drop_21 : decode cX5_drop 21 = .ok (.aload_n 0, 1) := by decide +kernel
theorem dX5_drop_22 : decode cX5_drop 22 = .ok (.getfield 24, 3) := by decide +kernel
theorem dX5_drop_25 : decode cX5_drop 25 = .ok (.iload_n 1, 1) := by decide +kernel
theorem dX5_drop_26 : decode cX5_drop 26 = .ok (.iaload, 1) := by decide +kernel
theorem dX5_drop_27 : decode cX5_drop 27 = .ok (.invokestatic 62, 3) := by decide +kernel
theorem dX5_drop_30 : decode cX5_drop 30 = .ok (.istore_n 3, 1) := by decide +kernel
theorem dX5_drop_31 : decode cX5_drop 31 = .ok (.aload_n 0, 1) := by decide +kernel
theorem dX5_drop_32 : decode cX5_drop 32 = .ok (.getfield 24, 3) := by decide +kernel
theorem dX5_drop_35 : decode cX5_drop 35 = .ok (.iload_n 1, 1) := by decide +kernel
theorem dX5_drop_36 : decode cX5_drop 36 = .ok (.dup2, 1) := by decide +kernel
theorem dX5_drop_37 : decode cX5_drop 37 = .ok (.iaload, 1) := by decide +kernel
theorem dX5_drop_38 : decode cX5_drop 38 = .ok (.iload_n 3, 1) := by decide +kernel
theorem dX5_drop_39 : decode cX5_drop 39 = .ok (.isub, 1) := by decide +kernel
theorem dX5_drop_40 : decode cX5_drop 40 = .ok (.iastore, 1) := by decide +kernel
theorem dX5_drop_41 : decode cX5_drop 41 = .ok (.aload_n 0, 1) := by decide +kernel
theorem dX5_drop_42 : decode cX5_drop 42 = .ok (.getfield 28, 3) := by decide +kernel
theorem dX5_drop_45 : decode cX5_drop 45 = .ok (.iload_n 1, 1) := by decide +kernel
theorem dX5_drop_46 : decode cX5_drop 46 = .ok (.dup2, 1) := by decide +kernel
theorem dX5_drop_47 : decode cX5_drop 47 = .ok (.iaload, 1) := by decide +kernel
theorem dX5_drop_48 : decode cX5_drop 48 = .ok (.iload_n 3, 1) := by decide +kernel
theorem dX5_drop_49 : decode cX5_drop 49 = .ok (.iadd, 1) := by decide +kernel
theorem dX5_drop_50 : decode cX5_drop 50 = .ok (.iastore, 1) := by decide +kernel
theorem dX5_drop_51 : decode cX5_drop 51 = .ok (.iload_n 3, 1) := by decide +kernel
theorem dX5_drop_52 : decode cX5_drop 52 = .ok (.ireturn, 1) := by decide +kernel
theorem dX5_closeFurther_0 : decode cX5_closeFurther 0 = .ok (.iconst 0, 1) := by decide +kernel
theorem dX5_closeFurther_1 : decode cX5_closeFurther 1 = .ok (.istore_n 2, 1) := by decide +kernel
theorem dX5_closeFurther_2 : decode cX5_closeFurther 2 = .ok (.iconst 0, 1) := by decide +kernel
theorem dX5_closeFurther_3 : decode cX5_closeFurther 3 = .ok (.istore_n 3, 1) := by decide +kernel
theorem dX5_closeFurther_4 : decode cX5_closeFurther 4 = .ok (.iload_n 3, 1) := by decide +kernel
theorem dX5_closeFurther_5 : decode cX5_closeFurther 5 = .ok (.bipush 18, 2) := by decide +kernel
theorem dX5_closeFurther_7 : decode cX5_closeFurther 7 = .ok (.if_icmp .ge 97, 3) := by decide +kernel
theorem dX5_closeFurther_10 : decode cX5_closeFurther 10 = .ok (.aload_n 0, 1) := by decide +kernel
theorem dX5_closeFurther_11 : decode cX5_closeFurther 11 = .ok (.getfield 34, 3) := by decide +kernel
theorem dX5_closeFurther_14 : decode cX5_closeFurther 14 = .ok (.iload_n 3, 1) := by decide +kernel
theorem dX5_closeFurther_15 : decode cX5_closeFurther 15 = .ok (.iaload, 1) := by decide +kernel
theorem dX5_closeFurther_16 : decode cX5_closeFurther 16 = .ok (.ifCond .le 16, 3) := by decide +kernel
theorem dX5_closeFurther_19 : decode cX5_closeFurther 19 = .ok (.aload_n 0, 1) := by decide +kernel
theorem dX5_closeFurther_20 : decode cX5_closeFurther 20 = .ok (.getfield 34, 3) := by decide +kernel
theorem dX5_closeFurther_23 : decode cX5_closeFurther 23 = .ok (.iload_n 3, 1) := by decide +kernel
theorem dX5_closeFurther_24 : decode cX5_closeFurther 24 = .ok (.dup2, 1) := by decide +kernel
theorem dX5_closeFurther_25 : decode cX5_closeFurther 25 = .ok (.iaload, 1) := by decide +kernel
theorem dX5_closeFurther_26 : decode cX5_closeFurther 26 = .ok (.iconst 1, 1) := by decide +kernel
theorem dX5_closeFurther_27 : decode cX5_closeFurther 27 = .ok (.isub, 1) := by decide +kernel
theorem dX5_closeFurther_28 : decode cX5_closeFurther 28 = .ok (.iastore, 1) := by decide +kernel
theorem dX5_closeFurther_29 : decode cX5_closeFurther 29 = .ok (.goto 69, 3) := by decide +kernel
theorem dX5_closeFurther_32 : decode cX5_closeFurther 32 = .ok (.aload_n 0, 1) := by decide +kernel
theorem dX5_closeFurther_33 : decode cX5_closeFurther 33 = .ok (.getfield 34, 3) := by decide +kernel
theorem dX5_closeFurther_36 : decode cX5_closeFurther 36 = .ok (.iload_n 3, 1) := by decide +kernel
theorem dX5_closeFurther_37 : decode cX5_closeFurther 37 = .ok (.iaload, 1) := by decide +kernel
theorem dX5_closeFurther_38 : decode cX5_closeFurther 38 = .ok (.ifCond .ne 60, 3) := by decide +kernel
theorem dX5_closeFurther_41 : decode cX5_closeFurther 41 = .ok (.aload_n 0, 1) := by decide +kernel
theorem dX5_closeFurther_42 : decode cX5_closeFurther 42 = .ok (.getfield 24, 3) := by decide +kernel
theorem dX5_closeFurther_45 : decode cX5_closeFurther 45 = .ok (.iload_n 3, 1) := by decide +kernel
theorem dX5_closeFurther_46 : decode cX5_closeFurther 46 = .ok (.iconst 3, 1) := by decide +kernel
theorem dX5_closeFurther_47 : decode cX5_closeFurther 47 = .ok (.idiv, 1) := by decide +kernel
theorem dX5_closeFurther_48 : decode cX5_closeFurther 48 = .ok (.iaload, 1) := by decide +kernel
theorem dX5_closeFurther_49 : decode cX5_closeFurther 49 = .ok (.iload_n 1, 1) := by decide +kernel
theorem dX5_closeFurther_50 : decode cX5_closeFurther 50 = .ok (.if_icmp .le 7, 3) := by decide +kernel
theorem dX5_closeFurther_53 : decode cX5_closeFurther 53 = .ok (.iconst 1, 1) := by decide +kernel
theorem dX5_closeFurther_54 : decode cX5_closeFurther 54 = .ok (.goto 4, 3) := by decide +kernel
theorem dX5_closeFurther_57 : decode cX5_closeFurther 57 = .ok (.iconst 0, 1) := by decide +kernel
theorem dX5_closeFurther_58 : decode cX5_closeFurther 58 = .ok (.istore 4, 2) := by decide +kernel
theorem dX5_closeFurther_60 : decode cX5_closeFurther 60 = .ok (.aload_n 0, 1) := by decide +kernel
theorem dX5_closeFurther_61 : decode cX5_closeFurther 61 = .ok (.getfield 31, 3) := by decide +kernel
theorem dX5_closeFurther_64 : decode cX5_closeFurther 64 = .ok (.iload_n 3, 1) := by decide +kernel
theorem dX5_closeFurther_65 : decode cX5_closeFurther 65 = .ok (.iload 4, 2) := by decide +kernel
theorem dX5_closeFurther_67 : decode cX5_closeFurther 67 = .ok (.ifCond .eq 7, 3) := by decide +kernel
theorem dX5_closeFurther_70 : decode cX5_closeFurther 70 = .ok (.iconst 1, 1) := by decide +kernel
theorem dX5_closeFurther_71 : decode cX5_closeFurther 71 = .ok (.goto 4, 3) := by decide +kernel
theorem dX5_closeFurther_74 : decode cX5_closeFurther 74 = .ok (.iconst 0, 1) := by decide +kernel
theorem dX5_closeFurther_75 : decode cX5_closeFurther 75 = .ok (.iastore, 1) := by decide +kernel
theorem dX5_closeFurther_76 : decode cX5_closeFurther 76 = .ok (.aload_n 0, 1) := by decide +kernel
theorem dX5_closeFurther_77 : decode cX5_closeFurther 77 = .ok (.getfield 34, 3) := by decide +kernel
theorem dX5_closeFurther_80 : decode cX5_closeFurther 80 = .ok (.iload_n 3, 1) := by decide +kernel
theorem dX5_closeFurther_81 : decode cX5_closeFurther 81 = .ok (.sipush (-1001), 3) := by decide +kernel
theorem dX5_closeFurther_84 : decode cX5_closeFurther 84 = .ok (.iastore, 1) := by decide +kernel

theorem dX0_init_0 : decode cX0_init 0 = .ok (.aload_n 0, 1) := by decide +kernel
theorem dX0_init_1 : decode cX0_init 1 = .ok (.invokespecial 3, 3) := by decide +kernel
theorem dX0_init_4 : decode cX0_init 4 = .ok (.aload_n 0, 1) := by decide +kernel
theorem dX0_init_5 : decode cX0_init 5 = .ok (.bipush 6, 2) := by decide +kernel
theorem dX0_init_7 : decode cX0_init 7 = .ok (.anewarray 9, 3) := by decide +kernel
theorem dX0_init_10 : decode cX0_init 10 = .ok (.putfield 11, 3) := by decide +kernel
theorem dX0_init_13 : decode cX0_init 13 = .ok (.aload_n 0, 1) := by decide +kernel
theorem dX0_init_14 : decode cX0_init 14 = .ok (.iconst 0, 1) := by decide +kernel
theorem dX0_init_15 : decode cX0_init 15 = .ok (.putfield 17, 3) := by decide +kernel
theorem dX0_init_18 : decode cX0_init 18 = .ok (.aload_n 0, 1) := by decide +kernel
theorem dX0_init_19 : decode cX0_init 19 = .ok (.iconst 0, 1) := by decide +kernel
theorem dX0_init_20 : decode cX0_init 20 = .ok (.putfield 21, 3) := by decide +kernel
theorem dX0_init_23 : decode cX0_init 23 = .ok (.iconst 0, 1) := by decide +kernel
theorem dX0_init_24 : decode cX0_init 24 = .ok (.istore_n 1, 1) := by decide +kernel
theorem dX0_init_25 : decode cX0_init 25 = .ok (.iload_n 1, 1) := by decide +kernel
theorem dX0_init_26 : decode cX0_init 26 = .ok (.aload_n 0, 1) := by decide +kernel
theorem dX0_init_27 : decode cX0_init 27 = .ok (.getfield 11, 3) := by decide +kernel
theorem dX0_init_30 : decode cX0_init 30 = .ok (.arraylength, 1) := by decide +kernel
theorem dX0_init_31 : decode cX0_init 31 = .ok (.if_icmp .ge 22, 3) := by decide +kernel
theorem dX0_init_34 : decode cX0_init 34 = .ok (.aload_n 0, 1) := by decide +kernel
theorem dX0_init_35 : decode cX0_init 35 = .ok (.getfield 11, 3) := by decide +kernel
theorem dX0_init_38 : decode cX0_init 38 = .ok (.iload_n 1, 1) := by decide +kernel
theorem dX0_init_39 : decode cX0_init 39 = .ok (.new 9, 3) := by decide +kernel
theorem dX0_init_42 : decode cX0_init 42 = .ok (.dup, 1) := by decide +kernel
theorem dX0_init_43 : decode cX0_init 43 = .ok (.invokespecial 24, 3) := by decide +kernel
theorem dX0_init_46 : decode cX0_init 46 = .ok (.aastore, 1) := by decide +kernel
theorem dX0_init_47 : decode cX0_init 47 = .ok (.iinc 1 1, 3) := by decide +kernel
theorem dX0_init_50 : decode cX0_init 50 = .ok (.goto (-25), 3) := by decide +kernel
theorem dX0_init_53 : decode cX0_init 53 = .ok (.return_, 1) := by decide +kernel
theorem dX0_keep_0 : decode cX0_keep 0 = .ok (.aload_n 0, 1) := by decide +kernel
theorem dX0_keep_1 : decode cX0_keep 1 = .ok (.getfield 11, 3) := by decide +kernel
theorem dX0_keep_4 : decode cX0_keep 4 = .ok (.aload_n 0, 1) := by decide +kernel
theorem dX0_keep_5 : decode cX0_keep 5 = .ok (.getfield 17, 3) := by decide +kernel
theorem dX0_keep_8 : decode cX0_keep 8 = .ok (.bipush 6, 2) := by decide +kernel
theorem dX0_keep_10 : decode cX0_keep 10 = .ok (.invokestatic 25, 3) := by decide +kernel
theorem dX0_keep_13 : decode cX0_keep 13 = .ok (.aaload, 1) := by decide +kernel
theorem dX0_keep_14 : decode cX0_keep 14 = .ok (.aload_n 1, 1) := by decide +kernel
theorem dX0_keep_15 : decode cX0_keep 15 = .ok (.invokevirtual 31, 3) := by decide +kernel
theorem dX0_keep_18 : decode cX0_keep 18 = .ok (.aload_n 0, 1) := by decide +kernel
theorem dX0_keep_19 : decode cX0_keep 19 = .ok (.dup, 1) := by decide +kernel
theorem dX0_keep_20 : decode cX0_keep 20 = .ok (.getfield 17, 3) := by decide +kernel
theorem dX0_keep_23 : decode cX0_keep 23 = .ok (.iconst 1, 1) := by decide +kernel
theorem dX0_keep_24 : decode cX0_keep 24 = .ok (.iadd, 1) := by decide +kernel
theorem dX0_keep_25 : decode cX0_keep 25 = .ok (.putfield 17, 3) := by decide +kernel
theorem dX0_keep_28 : decode cX0_keep 28 = .ok (.aload_n 0, 1) := by decide +kernel
theorem dX0_keep_29 : decode cX0_keep 29 = .ok (.aload_n 0, 1) := by decide +kernel
theorem dX0_keep_30 : decode cX0_keep 30 = .ok (.getfield 21, 3) := by decide +kernel
theorem dX0_keep_33 : decode cX0_keep 33 = .ok (.iconst 1, 1) := by decide +kernel
theorem dX0_keep_34 : decode cX0_keep 34 = .ok (.iadd, 1) := by decide +kernel
theorem dX0_keep_35 : decode cX0_keep 35 = .ok (.bipush 6, 2) := by decide +kernel
theorem dX0_keep_37 : decode cX0_keep 37 = .ok (.invokestatic 35, 3) := by decide +kernel
theorem dX0_keep_40 : decode cX0_keep 40 = .ok (.putfield 21, 3) := by decide +kernel
theorem dX0_keep_43 : decode cX0_keep 43 = .ok (.return_, 1) := by decide +kernel
theorem dX0_restore_0 : decode cX0_restore 0 = .ok (.aload_n 0, 1) := by decide +kernel
theorem dX0_restore_1 : decode cX0_restore 1 = .ok (.dup, 1) := by decide +kernel
theorem dX0_restore_2 : decode cX0_restore 2 = .ok (.getfield 17, 3) := by decide +kernel
theorem dX0_restore_5 : decode cX0_restore 5 = .ok (.iconst 1, 1) := by decide +kernel
theorem dX0_restore_6 : decode cX0_restore 6 = .ok (.isub, 1) := by decide +kernel
theorem dX0_restore_7 : decode cX0_restore 7 = .ok (.putfield 17, 3) := by decide +kernel
theorem dX0_restore_10 : decode cX0_restore 10 = .ok (.aload_n 0, 1) := by decide +kernel
theorem dX0_restore_11 : decode cX0_restore 11 = .ok (.dup, 1) := by decide +kernel
theorem dX0_restore_12 : decode cX0_restore 12 = .ok (.getfield 21, 3) := by decide +kernel
theorem dX0_restore_15 : decode cX0_restore 15 = .ok (.iconst 1, 1) := by decide +kernel
theorem dX0_restore_16 : decode cX0_restore 16 = .ok (.isub, 1) := by decide +kernel
theorem dX0_restore_17 : decode cX0_restore 17 = .ok (.putfield 21, 3) := by decide +kernel
theorem dX0_restore_20 : decode cX0_restore 20 = .ok (.aload_n 1, 1) := by decide +kernel
theorem dX0_restore_21 : decode cX0_restore 21 = .ok (.aload_n 0, 1) := by decide +kernel
theorem dX0_restore_22 : decode cX0_restore 22 = .ok (.getfield 11, 3) := by decide +kernel
theorem dX0_restore_25 : decode cX0_restore 25 = .ok (.aload_n 0, 1) := by decide +kernel
theorem dX0_restore_26 : decode cX0_restore 26 = .ok (.getfield 17, 3) := by decide +kernel
theorem dX0_restore_29 : decode cX0_restore 29 = .ok (.bipush 6, 2) := by decide +kernel
theorem dX0_restore_31 : decode cX0_restore 31 = .ok (.invokestatic 25, 3) := by decide +kernel
theorem dX0_restore_34 : decode cX0_restore 34 = .ok (.aaload, 1) := by decide +kernel
theorem dX0_restore_35 : decode cX0_restore 35 = .ok (.invokevirtual 31, 3) := by decide +kernel
theorem dX0_restore_38 : decode cX0_restore 38 = .ok (.return_, 1) := by decide +kernel
theorem dX1_isDue_0 : decode cX1_isDue 0 = .ok (.aload_n 0, 1) := by decide +kernel
theorem dX1_isDue_1 : decode cX1_isDue 1 = .ok (.getfield 15, 3) := by decide +kernel
theorem dX1_isDue_4 : decode cX1_isDue 4 = .ok (.iconst 2, 1) := by decide +kernel
theorem dX1_isDue_5 : decode cX1_isDue 5 = .ok (.if_icmp .ne 20, 3) := by decide +kernel
theorem dX1_isDue_8 : decode cX1_isDue 8 = .ok (.aload_n 1, 1) := by decide +kernel
theorem dX1_isDue_9 : decode cX1_isDue 9 = .ok (.getfield 27, 3) := by decide +kernel
theorem dX1_isDue_12 : decode cX1_isDue 12 = .ok (.aload_n 0, 1) := by decide +kernel
theorem dX1_isDue_13 : decode cX1_isDue 13 = .ok (.getfield 9, 3) := by decide +kernel
theorem dX1_isDue_16 : decode cX1_isDue 16 = .ok (.if_icmp .lt 7, 3) := by decide +kernel
theorem dX1_isDue_19 : decode cX1_isDue 19 = .ok (.iconst 1, 1) := by decide +kernel
theorem dX1_isDue_20 : decode cX1_isDue 20 = .ok (.goto 4, 3) := by decide +kernel
theorem dX1_isDue_23 : decode cX1_isDue 23 = .ok (.iconst 0, 1) := by decide +kernel
theorem dX1_isDue_24 : decode cX1_isDue 24 = .ok (.ireturn, 1) := by decide +kernel
theorem dX1_isDue_25 : decode cX1_isDue 25 = .ok (.aload_n 1, 1) := by decide +kernel
theorem dX1_isDue_26 : decode cX1_isDue 26 = .ok (.aload_n 0, 1) := by decide +kernel
theorem dX1_isDue_27 : decode cX1_isDue 27 = .ok (.getfield 18, 3) := by decide +kernel
theorem dX1_isDue_30 : decode cX1_isDue 30 = .ok (.aload_n 0, 1) := by decide +kernel
theorem dX1_isDue_31 : decode cX1_isDue 31 = .ok (.getfield 21, 3) := by decide +kernel
theorem dX1_isDue_34 : decode cX1_isDue 34 = .ok (.invokevirtual 32, 3) := by decide +kernel
theorem dX1_isDue_37 : decode cX1_isDue 37 = .ok (.ifCond .eq 22, 3) := by decide +kernel
theorem dX1_isDue_40 : decode cX1_isDue 40 = .ok (.aload_n 1, 1) := by decide +kernel
theorem dX1_isDue_41 : decode cX1_isDue 41 = .ok (.aload_n 0, 1) := by decide +kernel
theorem dX1_isDue_42 : decode cX1_isDue 42 = .ok (.getfield 18, 3) := by decide +kernel
theorem dX1_isDue_45 : decode cX1_isDue 45 = .ok (.invokevirtual 36, 3) := by decide +kernel
theorem dX1_isDue_48 : decode cX1_isDue 48 = .ok (.aload_n 0, 1) := by decide +kernel
theorem dX1_isDue_49 : decode cX1_isDue 49 = .ok (.getfield 9, 3) := by decide +kernel
theorem dX1_isDue_52 : decode cX1_isDue 52 = .ok (.if_icmp .lt 7, 3) := by decide +kernel
theorem dX1_isDue_55 : decode cX1_isDue 55 = .ok (.iconst 1, 1) := by decide +kernel
theorem dX1_isDue_56 : decode cX1_isDue 56 = .ok (.goto 4, 3) := by decide +kernel
theorem dX1_isDue_59 : decode cX1_isDue 59 = .ok (.iconst 0, 1) := by decide +kernel
theorem dX1_isDue_60 : decode cX1_isDue 60 = .ok (.ireturn, 1) := by decide +kernel
theorem dX1_carryOut_0 : decode cX1_carryOut 0 = .ok (.aload_n 0, 1) := by decide +kernel
theorem dX1_carryOut_1 : decode cX1_carryOut 1 = .ok (.getfield 15, 3) := by decide +kernel
theorem dX1_carryOut_4 : decode cX1_carryOut 4 = .ok (.iconst 2, 1) := by decide +kernel
theorem dX1_carryOut_5 : decode cX1_carryOut 5 = .ok (.if_icmp .ne 14, 3) := by decide +kernel
theorem dX1_carryOut_8 : decode cX1_carryOut 8 = .ok (.aload_n 1, 1) := by decide +kernel
theorem dX1_carryOut_9 : decode cX1_carryOut 9 = .ok (.aload_n 0, 1) := by decide +kernel
theorem dX1_carryOut_10 : decode cX1_carryOut 10 = .ok (.getfield 24, 3) := by decide +kernel
theorem dX1_carryOut_13 : decode cX1_carryOut 13 = .ok (.putfield 40, 3) := by decide +kernel
theorem dX1_carryOut_16 : decode cX1_carryOut 16 = .ok (.goto 42, 3) := by decide +kernel
theorem dX1_carryOut_19 : decode cX1_carryOut 19 = .ok (.aload_n 0, 1) := by decide +kernel
theorem dX1_carryOut_20 : decode cX1_carryOut 20 = .ok (.getfield 15, 3) := by decide +kernel
theorem dX1_carryOut_23 : decode cX1_carryOut 23 = .ok (.ifCond .ne 22, 3) := by decide +kernel
theorem dX1_carryOut_26 : decode cX1_carryOut 26 = .ok (.aload_n 1, 1) := by decide +kernel
theorem dX1_carryOut_27 : decode cX1_carryOut 27 = .ok (.aload_n 0, 1) := by decide +kernel
theorem dX1_carryOut_28 : decode cX1_carryOut 28 = .ok (.getfield 18, 3) := by decide +kernel
theorem dX1_carryOut_31 : decode cX1_carryOut 31 = .ok (.aload_n 0, 1) := by decide +kernel
theorem dX1_carryOut_32 : decode cX1_carryOut 32 = .ok (.getfield 21, 3) := by decide +kernel
theorem dX1_carryOut_35 : decode cX1_carryOut 35 = .ok (.aload_n 0, 1) := by decide +kernel
theorem dX1_carryOut_36 : decode cX1_carryOut 36 = .ok (.getfield 24, 3) := by decide +kernel
theorem dX1_carryOut_39 : decode cX1_carryOut 39 = .ok (.invokevirtual 43, 3) := by decide +kernel
theorem dX1_carryOut_42 : decode cX1_carryOut 42 = .ok (.goto 16, 3) := by decide +kernel
theorem dX1_carryOut_45 : decode cX1_carryOut 45 = .ok (.aload_n 1, 1) := by decide +kernel
theorem dX1_carryOut_46 : decode cX1_carryOut 46 = .ok (.aload_n 0, 1) := by decide +kernel
theorem dX1_carryOut_47 : decode cX1_carryOut 47 = .ok (.getfield 18, 3) := by decide +kernel
theorem dX1_carryOut_50 : decode cX1_carryOut 50 = .ok (.aload_n 0, 1) := by decide +kernel
theorem dX1_carryOut_51 : decode cX1_carryOut 51 = .ok (.getfield 21, 3) := by decide +kernel
theorem dX1_carryOut_54 : decode cX1_carryOut 54 = .ok (.iload_n 2, 1) := by decide +kernel
theorem dX1_carryOut_55 : decode cX1_carryOut 55 = .ok (.invokevirtual 47, 3) := by decide +kernel
theorem dX1_carryOut_58 : decode cX1_carryOut 58 = .ok (.return_, 1) := by decide +kernel
theorem dX2_init_0 : decode cX2_init 0 = .ok (.aload_n 0, 1) := by decide +kernel
theorem dX2_init_1 : decode cX2_init 1 = .ok (.invokespecial 3, 3) := by decide +kernel
theorem dX2_init_4 : decode cX2_init 4 = .ok (.aload_n 0, 1) := by decide +kernel
theorem dX2_init_5 : decode cX2_init 5 = .ok (.iconst 5, 1) := by decide +kernel
theorem dX2_init_6 : decode cX2_init 6 = .ok (.newarray .int, 2) := by decide +kernel
theorem dX2_init_8 : decode cX2_init 8 = .ok (.dup, 1) := by decide +kernel
theorem dX2_init_9 : decode cX2_init 9 = .ok (.iconst 0, 1) := by decide +kernel
theorem dX2_init_10 : decode cX2_init 10 = .ok (.iconst 4, 1) := by decide +kernel
theorem dX2_init_11 : decode cX2_init 11 = .ok (.iastore, 1) := by decide +kernel
theorem dX2_init_12 : decode cX2_init 12 = .ok (.dup, 1) := by decide +kernel
theorem dX2_init_13 : decode cX2_init 13 = .ok (.iconst 1, 1) := by decide +kernel
theorem dX2_init_14 : decode cX2_init 14 = .ok (.bipush 12, 2) := by decide +kernel
theorem dX2_init_16 : decode cX2_init 16 = .ok (.iastore, 1) := by decide +kernel
theorem dX2_init_17 : decode cX2_init 17 = .ok (.dup, 1) := by decide +kernel
theorem dX2_init_18 : decode cX2_init 18 = .ok (.iconst 2, 1) := by decide +kernel
theorem dX2_init_19 : decode cX2_init 19 = .ok (.iconst 1, 1) := by decide +kernel
theorem dX2_init_20 : decode cX2_init 20 = .ok (.iastore, 1) := by decide +kernel
theorem dX2_init_21 : decode cX2_init 21 = .ok (.dup, 1) := by decide +kernel
theorem dX2_init_22 : decode cX2_init 22 = .ok (.iconst 3, 1) := by decide +kernel
theorem dX2_init_23 : decode cX2_init 23 = .ok (.bipush 100, 2) := by decide +kernel
theorem dX2_init_25 : decode cX2_init 25 = .ok (.iastore, 1) := by decide +kernel
theorem dX2_init_26 : decode cX2_init 26 = .ok (.dup, 1) := by decide +kernel
theorem dX2_init_27 : decode cX2_init 27 = .ok (.iconst 4, 1) := by decide +kernel
theorem dX2_init_28 : decode cX2_init 28 = .ok (.bipush 8, 2) := by decide +kernel
theorem dX2_init_30 : decode cX2_init 30 = .ok (.iastore, 1) := by decide +kernel
theorem dX2_init_31 : decode cX2_init 31 = .ok (.putfield 9, 3) := by decide +kernel
theorem dX2_init_34 : decode cX2_init 34 = .ok (.aload_n 0, 1) := by decide +kernel
theorem dX2_init_35 : decode cX2_init 35 = .ok (.new 15, 3) := by decide +kernel
theorem dX2_init_38 : decode cX2_init 38 = .ok (.dup, 1) := by decide +kernel
theorem dX2_init_39 : decode cX2_init 39 = .ok (.invokespecial 17, 3) := by decide +kernel
theorem dX2_init_42 : decode cX2_init 42 = .ok (.putfield 18, 3) := by decide +kernel
theorem dX2_init_45 : decode cX2_init 45 = .ok (.aload_n 0, 1) := by decide +kernel
theorem dX2_init_46 : decode cX2_init 46 = .ok (.new 22, 3) := by decide +kernel
theorem dX2_init_49 : decode cX2_init 49 = .ok (.dup, 1) := by decide +kernel
theorem dX2_init_50 : decode cX2_init 50 = .ok (.invokespecial 24, 3) := by decide +kernel
theorem dX2_init_53 : decode cX2_init 53 = .ok (.putfield 25, 3) := by decide +kernel
theorem dX2_init_56 : decode cX2_init 56 = .ok (.aload_n 0, 1) := by decide +kernel
theorem dX2_init_57 : decode cX2_init 57 = .ok (.new 29, 3) := by decide +kernel
theorem dX2_init_60 : decode cX2_init 60 = .ok (.dup, 1) := by decide +kernel
theorem dX2_init_61 : decode cX2_init 61 = .ok (.invokespecial 31, 3) := by decide +kernel
theorem dX2_init_64 : decode cX2_init 64 = .ok (.putfield 32, 3) := by decide +kernel
theorem dX2_init_67 : decode cX2_init 67 = .ok (.aload_n 0, 1) := by decide +kernel
theorem dX2_init_68 : decode cX2_init 68 = .ok (.iconst 0, 1) := by decide +kernel
theorem dX2_init_69 : decode cX2_init 69 = .ok (.putfield 36, 3) := by decide +kernel
theorem dX2_init_72 : decode cX2_init 72 = .ok (.aload_n 0, 1) := by decide +kernel
theorem dX2_init_73 : decode cX2_init 73 = .ok (.iconst 0, 1) := by decide +kernel
theorem dX2_init_74 : decode cX2_init 74 = .ok (.putfield 40, 3) := by decide +kernel
theorem dX2_init_77 : decode cX2_init 77 = .ok (.aload_n 0, 1) := by decide +kernel
theorem dX2_init_78 : decode cX2_init 78 = .ok (.iconst 0, 1) := by decide +kernel
theorem dX2_init_79 : decode cX2_init 79 = .ok (.putfield 43, 3) := by decide +kernel
theorem dX2_init_82 : decode cX2_init 82 = .ok (.aload_n 0, 1) := by decide +kernel
theorem dX2_init_83 : decode cX2_init 83 = .ok (.iconst 0, 1) := by decide +kernel
theorem dX2_init_84 : decode cX2_init 84 = .ok (.putfield 46, 3) := by decide +kernel
theorem dX2_init_87 : decode cX2_init 87 = .ok (.aload_n 0, 1) := by decide +kernel
theorem dX2_init_88 : decode cX2_init 88 = .ok (.iconst 0, 1) := by decide +kernel
theorem dX2_init_89 : decode cX2_init 89 = .ok (.putfield 49, 3) := by decide +kernel
theorem dX2_init_92 : decode cX2_init 92 = .ok (.return_, 1) := by decide +kernel
theorem dX2_copyFrom_0 : decode cX2_copyFrom 0 = .ok (.aload_n 1, 1) := by decide +kernel
theorem dX2_copyFrom_1 : decode cX2_copyFrom 1 = .ok (.getfield 9, 3) := by decide +kernel
theorem dX2_copyFrom_4 : decode cX2_copyFrom 4 = .ok (.aload_n 0, 1) := by decide +kernel
theorem dX2_copyFrom_5 : decode cX2_copyFrom 5 = .ok (.getfield 9, 3) := by decide +kernel
theorem dX2_copyFrom_8 : decode cX2_copyFrom 8 = .ok (.invokestatic 52, 3) := by decide +kernel
theorem dX2_copyFrom_11 : decode cX2_copyFrom 11 = .ok (.aload_n 1, 1) := by decide +kernel
theorem dX2_copyFrom_12 : decode cX2_copyFrom 12 = .ok (.getfield 18, 3) := by decide +kernel
theorem dX2_copyFrom_15 : decode cX2_copyFrom 15 = .ok (.getfield 56, 3) := by decide +kernel
theorem dX2_copyFrom_18 : decode cX2_copyFrom 18 = .ok (.aload_n 0, 1) := by decide +kernel
theorem dX2_copyFrom_19 : decode cX2_copyFrom 19 = .ok (.getfield 18, 3) := by decide +kernel
theorem dX2_copyFrom_22 : decode cX2_copyFrom 22 = .ok (.getfield 56, 3) := by decide +kernel
theorem dX2_copyFrom_25 : decode cX2_copyFrom 25 = .ok (.invokestatic 52, 3) := by decide +kernel
theorem dX2_copyFrom_28 : decode cX2_copyFrom 28 = .ok (.aload_n 0, 1) := by decide +kernel
theorem dX2_copyFrom_29 : decode cX2_copyFrom 29 = .ok (.getfield 25, 3) := by decide +kernel
theorem dX2_copyFrom_32 : decode cX2_copyFrom 32 = .ok (.aload_n 1, 1) := by decide +kernel
theorem dX2_copyFrom_33 : decode cX2_copyFrom 33 = .ok (.getfield 25, 3) := by decide +kernel
theorem dX2_copyFrom_36 : decode cX2_copyFrom 36 = .ok (.invokevirtual 59, 3) := by decide +kernel
theorem dX2_copyFrom_39 : decode cX2_copyFrom 39 = .ok (.aload_n 0, 1) := by decide +kernel
theorem dX2_copyFrom_40 : decode cX2_copyFrom 40 = .ok (.getfield 32, 3) := by decide +kernel
theorem dX2_copyFrom_43 : decode cX2_copyFrom 43 = .ok (.invokevirtual 63, 3) := by decide +kernel
theorem dX2_copyFrom_46 : decode cX2_copyFrom 46 = .ok (.aload_n 1, 1) := by decide +kernel
theorem dX2_copyFrom_47 : decode cX2_copyFrom 47 = .ok (.getfield 32, 3) := by decide +kernel
theorem dX2_copyFrom_50 : decode cX2_copyFrom 50 = .ok (.aload_n 0, 1) := by decide +kernel
theorem dX2_copyFrom_51 : decode cX2_copyFrom 51 = .ok (.getfield 32, 3) := by decide +kernel
theorem dX2_copyFrom_54 : decode cX2_copyFrom 54 = .ok (.invokestatic 66, 3) := by decide +kernel
theorem dX2_copyFrom_57 : decode cX2_copyFrom 57 = .ok (.aload_n 0, 1) := by decide +kernel
theorem dX2_copyFrom_58 : decode cX2_copyFrom 58 = .ok (.aload_n 1, 1) := by decide +kernel
theorem dX2_copyFrom_59 : decode cX2_copyFrom 59 = .ok (.getfield 36, 3) := by decide +kernel
theorem dX2_copyFrom_62 : decode cX2_copyFrom 62 = .ok (.putfield 36, 3) := by decide +kernel
theorem dX2_copyFrom_65 : decode cX2_copyFrom 65 = .ok (.aload_n 0, 1) := by decide +kernel
theorem dX2_copyFrom_66 : decode cX2_copyFrom 66 = .ok (.aload_n 1, 1) := by decide +kernel
theorem dX2_copyFrom_67 : decode cX2_copyFrom 67 = .ok (.getfield 40, 3) := by decide +kernel
theorem dX2_copyFrom_70 : decode cX2_copyFrom 70 = .ok (.putfield 40, 3) := by decide +kernel
theorem dX2_copyFrom_73 : decode cX2_copyFrom 73 = .ok (.aload_n 0, 1) := by decide +kernel
theorem dX2_copyFrom_74 : decode cX2_copyFrom 74 = .ok (.aload_n 1, 1) := by decide +kernel
theorem dX2_copyFrom_75 : decode cX2_copyFrom 75 = .ok (.getfield 43, 3) := by decide +kernel
theorem dX2_copyFrom_78 : decode cX2_copyFrom 78 = .ok (.putfield 43, 3) := by decide +kernel
theorem dX2_copyFrom_81 : decode cX2_copyFrom 81 = .ok (.aload_n 0, 1) := by decide +kernel
theorem dX2_copyFrom_82 : decode cX2_copyFrom 82 = .ok (.aload_n 1, 1) := by decide +kernel
theorem dX2_copyFrom_83 : decode cX2_copyFrom 83 = .ok (.getfield 46, 3) := by decide +kernel
theorem dX2_copyFrom_86 : decode cX2_copyFrom 86 = .ok (.putfield 46, 3) := by decide +kernel
theorem dX2_copyFrom_89 : decode cX2_copyFrom 89 = .ok (.aload_n 0, 1) := by decide +kernel
theorem dX2_copyFrom_90 : decode cX2_copyFrom 90 = .ok (.aload_n 1, 1) := by decide +kernel
theorem dX2_copyFrom_91 : decode cX2_copyFrom 91 = .ok (.getfield 49, 3) := by decide +kernel
theorem dX2_copyFrom_94 : decode cX2_copyFrom 94 = .ok (.putfield 49, 3) := by decide +kernel
theorem dX2_copyFrom_97 : decode cX2_copyFrom 97 = .ok (.return_, 1) := by decide +kernel
theorem dX2_passSecond_0 : decode cX2_passSecond 0 = .ok (.aload_n 0, 1) := by decide +kernel
theorem dX2_passSecond_1 : decode cX2_passSecond 1 = .ok (.getfield 25, 3) := by decide +kernel
theorem dX2_passSecond_4 : decode cX2_passSecond 4 = .ok (.invokevirtual 70, 3) := by decide +kernel
theorem dX2_passSecond_7 : decode cX2_passSecond 7 = .ok (.aload_n 0, 1) := by decide +kernel
theorem dX2_passSecond_8 : decode cX2_passSecond 8 = .ok (.invokevirtual 73, 3) := by decide +kernel
theorem dX2_passSecond_11 : decode cX2_passSecond 11 = .ok (.aload_n 0, 1) := by decide +kernel
theorem dX2_passSecond_12 : decode cX2_passSecond 12 = .ok (.invokevirtual 76, 3) := by decide +kernel
theorem dX2_passSecond_15 : decode cX2_passSecond 15 = .ok (.aload_n 0, 1) := by decide +kernel
theorem dX2_passSecond_16 : decode cX2_passSecond 16 = .ok (.getfield 18, 3) := by decide +kernel
theorem dX2_passSecond_19 : decode cX2_passSecond 19 = .ok (.aload_n 0, 1) := by decide +kernel
theorem dX2_passSecond_20 : decode cX2_passSecond 20 = .ok (.getfield 9, 3) := by decide +kernel
theorem dX2_passSecond_23 : decode cX2_passSecond 23 = .ok (.iconst 0, 1) := by decide +kernel
theorem dX2_passSecond_24 : decode cX2_passSecond 24 = .ok (.iaload, 1) := by decide +kernel
theorem dX2_passSecond_25 : decode cX2_passSecond 25 = .ok (.invokevirtual 79, 3) := by decide +kernel
theorem dX2_passSecond_28 : decode cX2_passSecond 28 = .ok (.aload_n 0, 1) := by decide +kernel
theorem dX2_passSecond_29 : decode cX2_passSecond 29 = .ok (.dup, 1) := by decide +kernel
theorem dX2_passSecond_30 : decode cX2_passSecond 30 = .ok (.getfield 46, 3) := by decide +kernel
theorem dX2_passSecond_33 : decode cX2_passSecond 33 = .ok (.aload_n 0, 1) := by decide +kernel
theorem dX2_passSecond_34 : decode cX2_passSecond 34 = .ok (.getfield 18, 3) := by decide +kernel
theorem dX2_passSecond_37 : decode cX2_passSecond 37 = .ok (.aload_n 0, 1) := by decide +kernel
theorem dX2_passSecond_38 : decode cX2_passSecond 38 = .ok (.getfield 9, 3) := by decide +kernel
theorem dX2_passSecond_41 : decode cX2_passSecond 41 = .ok (.iconst 1, 1) := by decide +kernel
theorem dX2_passSecond_42 : decode cX2_passSecond 42 = .ok (.iaload, 1) := by decide +kernel
theorem dX2_passSecond_43 : decode cX2_passSecond 43 = .ok (.invokevirtual 83, 3) := by decide +kernel
theorem dX2_passSecond_46 : decode cX2_passSecond 46 = .ok (.iadd, 1) := by decide +kernel
theorem dX2_passSecond_47 : decode cX2_passSecond 47 = .ok (.putfield 46, 3) := by decide +kernel
theorem dX2_passSecond_50 : decode cX2_passSecond 50 = .ok (.aload_n 0, 1) := by decide +kernel
theorem dX2_passSecond_51 : decode cX2_passSecond 51 = .ok (.dup, 1) := by decide +kernel
theorem dX2_passSecond_52 : decode cX2_passSecond 52 = .ok (.getfield 40, 3) := by decide +kernel
theorem dX2_passSecond_55 : decode cX2_passSecond 55 = .ok (.aload_n 0, 1) := by decide +kernel
theorem dX2_passSecond_56 : decode cX2_passSecond 56 = .ok (.getfield 25, 3) := by decide +kernel
theorem dX2_passSecond_59 : decode cX2_passSecond 59 = .ok (.aload_n 0, 1) := by decide +kernel
theorem dX2_passSecond_60 : decode cX2_passSecond 60 = .ok (.getfield 9, 3) := by decide +kernel
theorem dX2_passSecond_63 : decode cX2_passSecond 63 = .ok (.iconst 3, 1) := by decide +kernel
theorem dX2_passSecond_64 : decode cX2_passSecond 64 = .ok (.iaload, 1) := by decide +kernel
theorem dX2_passSecond_65 : decode cX2_passSecond 65 = .ok (.invokevirtual 87, 3) := by decide +kernel
theorem dX2_passSecond_68 : decode cX2_passSecond 68 = .ok (.iadd, 1) := by decide +kernel
theorem dX2_passSecond_69 : decode cX2_passSecond 69 = .ok (.putfield 40, 3) := by decide +kernel
theorem dX2_passSecond_72 : decode cX2_passSecond 72 = .ok (.aload_n 0, 1) := by decide +kernel
theorem dX2_passSecond_73 : decode cX2_passSecond 73 = .ok (.dup, 1) := by decide +kernel
theorem dX2_passSecond_74 : decode cX2_passSecond 74 = .ok (.getfield 36, 3) := by decide +kernel
theorem dX2_passSecond_77 : decode cX2_passSecond 77 = .ok (.iconst 1, 1) := by decide +kernel
theorem dX2_passSecond_78 : decode cX2_passSecond 78 = .ok (.iadd, 1) := by decide +kernel
theorem dX2_passSecond_79 : decode cX2_passSecond 79 = .ok (.putfield 36, 3) := by decide +kernel
theorem dX2_passSecond_82 : decode cX2_passSecond 82 = .ok (.return_, 1) := by decide +kernel
theorem dX2_unload_0 : decode cX2_unload 0 = .ok (.iconst 0, 1) := by decide +kernel
theorem dX2_unload_1 : decode cX2_unload 1 = .ok (.istore_n 1, 1) := by decide +kernel
theorem dX2_unload_2 : decode cX2_unload 2 = .ok (.iload_n 1, 1) := by decide +kernel
theorem dX2_unload_3 : decode cX2_unload 3 = .ok (.aload_n 0, 1) := by decide +kernel
theorem dX2_unload_4 : decode cX2_unload 4 = .ok (.getfield 25, 3) := by decide +kernel
theorem dX2_unload_7 : decode cX2_unload 7 = .ok (.getfield 90, 3) := by decide +kernel
theorem dX2_unload_10 : decode cX2_unload 10 = .ok (.if_icmp .ge 44, 3) := by decide +kernel
theorem dX2_unload_13 : decode cX2_unload 13 = .ok (.iconst 0, 1) := by decide +kernel
theorem dX2_unload_14 : decode cX2_unload 14 = .ok (.istore_n 2, 1) := by decide +kernel
theorem dX2_unload_15 : decode cX2_unload 15 = .ok (.iload_n 2, 1) := by decide +kernel
theorem dX2_unload_16 : decode cX2_unload 16 = .ok (.iconst 3, 1) := by decide +kernel
theorem dX2_unload_17 : decode cX2_unload 17 = .ok (.if_icmp .ge 31, 3) := by decide +kernel
theorem dX2_unload_20 : decode cX2_unload 20 = .ok (.aload_n 0, 1) := by decide +kernel
theorem dX2_unload_21 : decode cX2_unload 21 = .ok (.aload_n 0, 1) := by decide +kernel
theorem dX2_unload_22 : decode cX2_unload 22 = .ok (.getfield 25, 3) := by decide +kernel
theorem dX2_unload_25 : decode cX2_unload 25 = .ok (.iload_n 1, 1) := by decide +kernel
theorem dX2_unload_26 : decode cX2_unload 26 = .ok (.invokevirtual 93, 3) := by decide +kernel
theorem dX2_unload_29 : decode cX2_unload 29 = .ok (.iload_n 2, 1) := by decide +kernel
theorem dX2_unload_30 : decode cX2_unload 30 = .ok (.aload_n 0, 1) := by decide +kernel
theorem dX2_unload_31 : decode cX2_unload 31 = .ok (.getfield 25, 3) := by decide +kernel
theorem dX2_unload_34 : decode cX2_unload 34 = .ok (.iload_n 1, 1) := by decide +kernel
theorem dX2_unload_35 : decode cX2_unload 35 = .ok (.iload_n 2, 1) := by decide +kernel
theorem dX2_unload_36 : decode cX2_unload 36 = .ok (.invokevirtual 96, 3) := by decide +kernel
theorem dX2_unload_39 : decode cX2_unload 39 = .ok (.invokevirtual 100, 3) := by decide +kernel
theorem dX2_unload_42 : decode cX2_unload 42 = .ok (.iinc 2 1, 3) := by decide +kernel
theorem dX2_unload_45 : decode cX2_unload 45 = .ok (.goto (-30), 3) := by decide +kernel
theorem dX2_unload_48 : decode cX2_unload 48 = .ok (.iinc 1 1, 3) := by decide +kernel
theorem dX2_unload_51 : decode cX2_unload 51 = .ok (.goto (-49), 3) := by decide +kernel
theorem dX2_unload_54 : decode cX2_unload 54 = .ok (.return_, 1) := by decide +kernel
theorem dX2_land_0 : decode cX2_land 0 = .ok (.iload_n 1, 1) := by decide +kernel
theorem dX2_land_1 : decode cX2_land 1 = .ok (.iload_n 2, 1) := by decide +kernel
theorem dX2_land_2 : decode cX2_land 2 = .ok (.invokestatic 104, 3) := by decide +kernel
theorem dX2_land_5 : decode cX2_land 5 = .ok (.ifCond .eq 16, 3) := by decide +kernel
theorem dX2_land_8 : decode cX2_land 8 = .ok (.aload_n 0, 1) := by decide +kernel
theorem dX2_land_9 : decode cX2_land 9 = .ok (.getfield 18, 3) := by decide +kernel
theorem dX2_land_12 : decode cX2_land 12 = .ok (.iload_n 1, 1) := by decide +kernel
theorem dX2_land_13 : decode cX2_land 13 = .ok (.iload_n 2, 1) := by decide +kernel
theorem dX2_land_14 : decode cX2_land 14 = .ok (.iload_n 3, 1) := by decide +kernel
theorem dX2_land_15 : decode cX2_land 15 = .ok (.invokevirtual 108, 3) := by decide +kernel
theorem dX2_land_18 : decode cX2_land 18 = .ok (.goto 13, 3) := by decide +kernel
theorem dX2_land_21 : decode cX2_land 21 = .ok (.aload_n 0, 1) := by decide +kernel
theorem dX2_land_22 : decode cX2_land 22 = .ok (.dup, 1) := by decide +kernel
theorem dX2_land_23 : decode cX2_land 23 = .ok (.getfield 46, 3) := by decide +kernel
theorem dX2_land_26 : decode cX2_land 26 = .ok (.iload_n 3, 1) := by decide +kernel
theorem dX2_land_27 : decode cX2_land 27 = .ok (.iadd, 1) := by decide +kernel
theorem dX2_land_28 : decode cX2_land 28 = .ok (.putfield 46, 3) := by decide +kernel
theorem dX2_land_31 : decode cX2_land 31 = .ok (.return_, 1) := by decide +kernel
theorem dX2_carryOutOrders_0 : decode cX2_carryOutOrders 0 = .ok (.iconst 0, 1) := by decide +kernel
theorem dX2_carryOutOrders_1 : decode cX2_carryOutOrders 1 = .ok (.istore_n 1, 1) := by decide +kernel
theorem dX2_carryOutOrders_2 : decode cX2_carryOutOrders 2 = .ok (.iconst 0, 1) := by decide +kernel
theorem dX2_carryOutOrders_3 : decode cX2_carryOutOrders 3 = .ok (.istore_n 2, 1) := by decide +kernel
theorem dX2_carryOutOrders_4 : decode cX2_carryOutOrders 4 = .ok (.iload_n 2, 1) := by decide +kernel
theorem dX2_carryOutOrders_5 : decode cX2_carryOutOrders 5 = .ok (.aload_n 0, 1) := by decide +kernel
theorem dX2_carryOutOrders_6 : decode cX2_carryOutOrders 6 = .ok (.getfield 32, 3) := by decide +kernel
theorem dX2_carryOutOrders_9 : decode cX2_carryOutOrders 9 = .ok (.invokevirtual 111, 3) := by decide +kernel
theorem dX2_carryOutOrders_12 : decode cX2_carryOutOrders 12 = .ok (.if_icmp .ge 62, 3) := by decide +kernel
theorem dX2_carryOutOrders_15 : decode cX2_carryOutOrders 15 = .ok (.aload_n 0, 1) := by decide +kernel
theorem dX2_carryOutOrders_16 : decode cX2_carryOutOrders 16 = .ok (.getfield 32, 3) := by decide +kernel
theorem dX2_carryOutOrders_19 : decode cX2_carryOutOrders 19 = .ok (.iload_n 2, 1) := by decide +kernel
theorem dX2_carryOutOrders_20 : decode cX2_carryOutOrders 20 = .ok (.invokevirtual 115, 3) := by decide +kernel
theorem dX2_carryOutOrders_23 : decode cX2_carryOutOrders 23 = .ok (.checkcast 119, 3) := by decide +kernel
theorem dX2_carryOutOrders_26 : decode cX2_carryOutOrders 26 = .ok (.astore_n 3, 1) := by decide +kernel
theorem dX2_carryOutOrders_27 : decode cX2_carryOutOrders 27 = .ok (.aload_n 3, 1) := by decide +kernel
theorem dX2_carryOutOrders_28 : decode cX2_carryOutOrders 28 = .ok (.aload_n 0, 1) := by decide +kernel
theorem dX2_carryOutOrders_29 : decode cX2_carryOutOrders 29 = .ok (.getfield 25, 3) := by decide +kernel
theorem dX2_carryOutOrders_32 : decode cX2_carryOutOrders 32 = .ok (.invokevirtual 121, 3) := by decide +kernel
theorem dX2_carryOutOrders_35 : decode cX2_carryOutOrders 35 = .ok (.ifCond .eq 20, 3) := by decide +kernel
theorem dX2_carryOutOrders_38 : decode cX2_carryOutOrders 38 = .ok (.aload_n 3, 1) := by decide +kernel
theorem dX2_carryOutOrders_39 : decode cX2_carryOutOrders 39 = .ok (.aload_n 0, 1) := by decide +kernel
theorem dX2_carryOutOrders_40 : decode cX2_carryOutOrders 40 = .ok (.getfield 25, 3) := by decide +kernel
theorem dX2_carryOutOrders_43 : decode cX2_carryOutOrders 43 = .ok (.aload_n 0, 1) := by decide +kernel
theorem dX2_carryOutOrders_44 : decode cX2_carryOutOrders 44 = .ok (.getfield 9, 3) := by decide +kernel
theorem dX2_carryOutOrders_47 : decode cX2_carryOutOrders 47 = .ok (.iconst 2, 1) := by decide +kernel
theorem dX2_carryOutOrders_48 : decode cX2_carryOutOrders 48 = .ok (.iaload, 1) := by decide +kernel
theorem dX2_carryOutOrders_49 : decode cX2_carryOutOrders 49 = .ok (.invokevirtual 125, 3) := by decide +kernel
theorem dX2_carryOutOrders_52 : decode cX2_carryOutOrders 52 = .ok (.goto 16, 3) := by decide +kernel
theorem dX2_carryOutOrders_55 : decode cX2_carryOutOrders 55 = .ok (.aload_n 0, 1) := by decide +kernel
theorem dX2_carryOutOrders_56 : decode cX2_carryOutOrders 56 = .ok (.getfield 32, 3) := by decide +kernel
theorem dX2_carryOutOrders_59 : decode cX2_carryOutOrders 59 = .ok (.iload_n 1, 1) := by decide +kernel
theorem dX2_carryOutOrders_60 : decode cX2_carryOutOrders 60 = .ok (.aload_n 3, 1) := by decide +kernel
theorem dX2_carryOutOrders_61 : decode cX2_carryOutOrders 61 = .ok (.invokevirtual 129, 3) := by decide +kernel
theorem dX2_carryOutOrders_64 : decode cX2_carryOutOrders 64 = .ok (.pop, 1) := by decide +kernel
theorem dX2_carryOutOrders_65 : decode cX2_carryOutOrders 65 = .ok (.iinc 1 1, 3) := by decide +kernel
theorem dX2_carryOutOrders_68 : decode cX2_carryOutOrders 68 = .ok (.iinc 2 1, 3) := by decide +kernel
theorem dX2_carryOutOrders_71 : decode cX2_carryOutOrders 71 = .ok (.goto (-67), 3) := by decide +kernel
theorem dX2_carryOutOrders_74 : decode cX2_carryOutOrders 74 = .ok (.aload_n 0, 1) := by decide +kernel
theorem dX2_carryOutOrders_75 : decode cX2_carryOutOrders 75 = .ok (.getfield 32, 3) := by decide +kernel
theorem dX2_carryOutOrders_78 : decode cX2_carryOutOrders 78 = .ok (.invokevirtual 111, 3) := by decide +kernel
theorem dX2_carryOutOrders_81 : decode cX2_carryOutOrders 81 = .ok (.iconst 1, 1) := by decide +kernel
theorem dX2_carryOutOrders_82 : decode cX2_carryOutOrders 82 = .ok (.isub, 1) := by decide +kernel
theorem dX2_carryOutOrders_83 : decode cX2_carryOutOrders 83 = .ok (.istore_n 2, 1) := by decide +kernel
theorem dX2_carryOutOrders_84 : decode cX2_carryOutOrders 84 = .ok (.iload_n 2, 1) := by decide +kernel
theorem dX2_carryOutOrders_85 : decode cX2_carryOutOrders 85 = .ok (.iload_n 1, 1) := by decide +kernel
theorem dX2_carryOutOrders_86 : decode cX2_carryOutOrders 86 = .ok (.if_icmp .lt 18, 3) := by decide +kernel
theorem dX2_carryOutOrders_89 : decode cX2_carryOutOrders 89 = .ok (.aload_n 0, 1) := by decide +kernel
theorem dX2_carryOutOrders_90 : decode cX2_carryOutOrders 90 = .ok (.getfield 32, 3) := by decide +kernel
theorem dX2_carryOutOrders_93 : decode cX2_carryOutOrders 93 = .ok (.iload_n 2, 1) := by decide +kernel
theorem dX2_carryOutOrders_94 : decode cX2_carryOutOrders 94 = .ok (.invokevirtual 133, 3) := by decide +kernel
theorem dX2_carryOutOrders_97 : decode cX2_carryOutOrders 97 = .ok (.pop, 1) := by decide +kernel
theorem dX2_carryOutOrders_98 : decode cX2_carryOutOrders 98 = .ok (.iinc 2 (-1), 3) := by decide +kernel
theorem dX2_carryOutOrders_101 : decode cX2_carryOutOrders 101 = .ok (.goto (-17), 3) := by decide +kernel
theorem dX2_carryOutOrders_104 : decode cX2_carryOutOrders 104 = .ok (.return_, 1) := by decide +kernel
theorem dX3_init_0 : decode cX3_init 0 = .ok (.aload_n 0, 1) := by decide +kernel
theorem dX3_init_1 : decode cX3_init 1 = .ok (.invokespecial 3, 3) := by decide +kernel
theorem dX3_init_4 : decode cX3_init 4 = .ok (.aload_n 0, 1) := by decide +kernel
theorem dX3_init_5 : decode cX3_init 5 = .ok (.bipush 60, 2) := by decide +kernel
theorem dX3_init_7 : decode cX3_init 7 = .ok (.newarray .int, 2) := by decide +kernel
theorem dX3_init_9 : decode cX3_init 9 = .ok (.putfield 9, 3) := by decide +kernel
theorem dX3_init_12 : decode cX3_init 12 = .ok (.aload_n 0, 1) := by decide +kernel
theorem dX3_init_13 : decode cX3_init 13 = .ok (.iconst 0, 1) := by decide +kernel
theorem dX3_init_14 : decode cX3_init 14 = .ok (.putfield 15, 3) := by decide +kernel
theorem dX3_init_17 : decode cX3_init 17 = .ok (.aload_n 0, 1) := by decide +kernel
theorem dX3_init_18 : decode cX3_init 18 = .ok (.new 19, 3) := by decide +kernel
theorem dX3_init_21 : decode cX3_init 21 = .ok (.dup, 1) := by decide +kernel
theorem dX3_init_22 : decode cX3_init 22 = .ok (.invokespecial 21, 3) := by decide +kernel
theorem dX3_init_25 : decode cX3_init 25 = .ok (.putfield 22, 3) := by decide +kernel
theorem dX3_init_28 : decode cX3_init 28 = .ok (.aload_n 0, 1) := by decide +kernel
theorem dX3_init_29 : decode cX3_init 29 = .ok (.sipush (-1001), 3) := by decide +kernel
theorem dX3_init_32 : decode cX3_init 32 = .ok (.putfield 26, 3) := by decide +kernel
theorem dX3_init_35 : decode cX3_init 35 = .ok (.aload_n 0, 1) := by decide +kernel
theorem dX3_init_36 : decode cX3_init 36 = .ok (.iconst 0, 1) := by decide +kernel
theorem dX3_init_37 : decode cX3_init 37 = .ok (.putfield 29, 3) := by decide +kernel
theorem dX3_init_40 : decode cX3_init 40 = .ok (.return_, 1) := by decide +kernel
theorem dX4_init_0 : decode cX4_init 0 = .ok (.aload_n 0, 1) := by decide +kernel
theorem dX4_init_1 : decode cX4_init 1 = .ok (.invokespecial 3, 3) := by decide +kernel
theorem dX4_init_4 : decode cX4_init 4 = .ok (.aload_n 0, 1) := by decide +kernel
theorem dX4_init_5 : decode cX4_init 5 = .ok (.bipush 120, 2) := by decide +kernel
theorem dX4_init_7 : decode cX4_init 7 = .ok (.newarray .int, 2) := by decide +kernel
theorem dX4_init_9 : decode cX4_init 9 = .ok (.putfield 9, 3) := by decide +kernel
theorem dX4_init_12 : decode cX4_init 12 = .ok (.return_, 1) := by decide +kernel
theorem dX4_has_0 : decode cX4_has 0 = .ok (.iload_n 0, 1) := by decide +kernel
theorem dX4_has_1 : decode cX4_has 1 = .ok (.ifCond .lt 22, 3) := by decide +kernel
theorem dX4_has_4 : decode cX4_has 4 = .ok (.iload_n 0, 1) := by decide +kernel
theorem dX4_has_5 : decode cX4_has 5 = .ok (.bipush 40, 2) := by decide +kernel
theorem dX4_has_7 : decode cX4_has 7 = .ok (.if_icmp .ge 16, 3) := by decide +kernel
theorem dX4_has_10 : decode cX4_has 10 = .ok (.iload_n 1, 1) := by decide +kernel
theorem dX4_has_11 : decode cX4_has 11 = .ok (.ifCond .lt 12, 3) := by decide +kernel
theorem dX4_has_14 : decode cX4_has 14 = .ok (.iload_n 1, 1) := by decide +kernel
theorem dX4_has_15 : decode cX4_has 15 = .ok (.iconst 3, 1) := by decide +kernel
theorem dX4_has_16 : decode cX4_has 16 = .ok (.if_icmp .ge 7, 3) := by decide +kernel
theorem dX4_has_19 : decode cX4_has 19 = .ok (.iconst 1, 1) := by decide +kernel
theorem dX4_has_20 : decode cX4_has 20 = .ok (.goto 4, 3) := by decide +kernel
theorem dX4_has_23 : decode cX4_has 23 = .ok (.iconst 0, 1) := by decide +kernel
theorem dX4_has_24 : decode cX4_has 24 = .ok (.ireturn, 1) := by decide +kernel
theorem dX4_heightAt_0 : decode cX4_heightAt 0 = .ok (.iload_n 1, 1) := by decide +kernel
theorem dX4_heightAt_1 : decode cX4_heightAt 1 = .ok (.iload_n 2, 1) := by decide +kernel
theorem dX4_heightAt_2 : decode cX4_heightAt 2 = .ok (.invokestatic 15, 3) := by decide +kernel
theorem dX4_heightAt_5 : decode cX4_heightAt 5 = .ok (.ifCond .eq 16, 3) := by decide +kernel
theorem dX4_heightAt_8 : decode cX4_heightAt 8 = .ok (.aload_n 0, 1) := by decide +kernel
theorem dX4_heightAt_9 : decode cX4_heightAt 9 = .ok (.getfield 9, 3) := by decide +kernel
theorem dX4_heightAt_12 : decode cX4_heightAt 12 = .ok (.iconst 3, 1) := by decide +kernel
theorem dX4_heightAt_13 : decode cX4_heightAt 13 = .ok (.iload_n 1, 1) := by decide +kernel
theorem dX4_heightAt_14 : decode cX4_heightAt 14 = .ok (.imul, 1) := by decide +kernel
theorem dX4_heightAt_15 : decode cX4_heightAt 15 = .ok (.iload_n 2, 1) := by decide +kernel
theorem dX4_heightAt_16 : decode cX4_heightAt 16 = .ok (.iadd, 1) := by decide +kernel
theorem dX4_heightAt_17 : decode cX4_heightAt 17 = .ok (.iaload, 1) := by decide +kernel
theorem dX4_heightAt_18 : decode cX4_heightAt 18 = .ok (.goto 4, 3) := by decide +kernel
theorem dX4_heightAt_21 : decode cX4_heightAt 21 = .ok (.iconst 0, 1) := by decide +kernel
theorem dX4_heightAt_22 : decode cX4_heightAt 22 = .ok (.ireturn, 1) := by decide +kernel
theorem dX4_add_0 : decode cX4_add 0 = .ok (.iload_n 1, 1) := by decide +kernel
theorem dX4_add_1 : decode cX4_add 1 = .ok (.iload_n 2, 1) := by decide +kernel
theorem dX4_add_2 : decode cX4_add 2 = .ok (.invokestatic 15, 3) := by decide +kernel
theorem dX4_add_5 : decode cX4_add 5 = .ok (.ifCond .eq 17, 3) := by decide +kernel
theorem dX4_add_8 : decode cX4_add 8 = .ok (.aload_n 0, 1) := by decide +kernel
theorem dX4_add_9 : decode cX4_add 9 = .ok (.getfield 9, 3) := by decide +kernel
theorem dX4_add_12 : decode cX4_add 12 = .ok (.iconst 3, 1) := by decide +kernel
theorem dX4_add_13 : decode cX4_add 13 = .ok (.iload_n 1, 1) := by decide +kernel
theorem dX4_add_14 : decode cX4_add 14 = .ok (.imul, 1) := by decide +kernel
theorem dX4_add_15 : decode cX4_add 15 = .ok (.iload_n 2, 1) := by decide +kernel
theorem dX4_add_16 : decode cX4_add 16 = .ok (.iadd, 1) := by decide +kernel
theorem dX4_add_17 : decode cX4_add 17 = .ok (.dup2, 1) := by decide +kernel
theorem dX4_add_18 : decode cX4_add 18 = .ok (.iaload, 1) := by decide +kernel
theorem dX4_add_19 : decode cX4_add 19 = .ok (.iload_n 3, 1) := by decide +kernel
theorem dX4_add_20 : decode cX4_add 20 = .ok (.iadd, 1) := by decide +kernel
theorem dX4_add_21 : decode cX4_add 21 = .ok (.iastore, 1) := by decide +kernel
theorem dX4_add_22 : decode cX4_add 22 = .ok (.return_, 1) := by decide +kernel
theorem dX4_slide_0 : decode cX4_slide 0 = .ok (.iconst 0, 1) := by decide +kernel
theorem dX4_slide_1 : decode cX4_slide 1 = .ok (.istore_n 2, 1) := by decide +kernel
theorem dX4_slide_2 : decode cX4_slide 2 = .ok (.iload_n 2, 1) := by decide +kernel
theorem dX4_slide_3 : decode cX4_slide 3 = .ok (.iconst 3, 1) := by decide +kernel
theorem dX4_slide_4 : decode cX4_slide 4 = .ok (.iadd, 1) := by decide +kernel
theorem dX4_slide_5 : decode cX4_slide 5 = .ok (.aload_n 0, 1) := by decide +kernel
theorem dX4_slide_6 : decode cX4_slide 6 = .ok (.getfield 9, 3) := by decide +kernel
theorem dX4_slide_9 : decode cX4_slide 9 = .ok (.arraylength, 1) := by decide +kernel
theorem dX4_slide_10 : decode cX4_slide 10 = .ok (.if_icmp .ge 83, 3) := by decide +kernel
theorem dX4_slide_13 : decode cX4_slide 13 = .ok (.aload_n 0, 1) := by decide +kernel
theorem dX4_slide_14 : decode cX4_slide 14 = .ok (.getfield 9, 3) := by decide +kernel
theorem dX4_slide_17 : decode cX4_slide 17 = .ok (.iload_n 2, 1) := by decide +kernel
theorem dX4_slide_18 : decode cX4_slide 18 = .ok (.iaload, 1) := by decide +kernel
theorem dX4_slide_19 : decode cX4_slide 19 = .ok (.aload_n 0, 1) := by decide +kernel
theorem dX4_slide_20 : decode cX4_slide 20 = .ok (.getfield 9, 3) := by decide +kernel
theorem dX4_slide_23 : decode cX4_slide 23 = .ok (.iload_n 2, 1) := by decide +kernel
theorem dX4_slide_24 : decode cX4_slide 24 = .ok (.iconst 3, 1) := by decide +kernel
theorem dX4_slide_25 : decode cX4_slide 25 = .ok (.iadd, 1) := by decide +kernel
theorem dX4_slide_26 : decode cX4_slide 26 = .ok (.iaload, 1) := by decide +kernel
theorem dX4_slide_27 : decode cX4_slide 27 = .ok (.isub, 1) := by decide +kernel
theorem dX4_slide_28 : decode cX4_slide 28 = .ok (.istore_n 3, 1) := by decide +kernel
theorem dX4_slide_29 : decode cX4_slide 29 = .ok (.iload_n 3, 1) := by decide +kernel
theorem dX4_slide_30 : decode cX4_slide 30 = .ok (.iload_n 1, 1) := by decide +kernel
theorem dX4_slide_31 : decode cX4_slide 31 = .ok (.if_icmp .le 28, 3) := by decide +kernel
theorem dX4_slide_34 : decode cX4_slide 34 = .ok (.aload_n 0, 1) := by decide +kernel
theorem dX4_slide_35 : decode cX4_slide 35 = .ok (.getfield 9, 3) := by decide +kernel
theorem dX4_slide_38 : decode cX4_slide 38 = .ok (.iload_n 2, 1) := by decide +kernel
theorem dX4_slide_39 : decode cX4_slide 39 = .ok (.dup2, 1) := by decide +kernel
theorem dX4_slide_40 : decode cX4_slide 40 = .ok (.iaload, 1) := by decide +kernel
theorem dX4_slide_41 : decode cX4_slide 41 = .ok (.iconst 1, 1) := by decide +kernel
theorem dX4_slide_42 : decode cX4_slide 42 = .ok (.isub, 1) := by decide +kernel
theorem dX4_slide_43 : decode cX4_slide 43 = .ok (.iastore, 1) := by decide +kernel
theorem dX4_slide_44 : decode cX4_slide 44 = .ok (.aload_n 0, 1) := by decide +kernel
theorem dX4_slide_45 : decode cX4_slide 45 = .ok (.getfield 9, 3) := by decide +kernel
theorem dX4_slide_48 : decode cX4_slide 48 = .ok (.iload_n 2, 1) := by decide +kernel
theorem dX4_slide_49 : decode cX4_slide 49 = .ok (.iconst 3, 1) := by decide +kernel
theorem dX4_slide_50 : decode cX4_slide 50 = .ok (.iadd, 1) := by decide +kernel
theorem dX4_slide_51 : decode cX4_slide 51 = .ok (.dup2, 1) := by decide +kernel
theorem dX4_slide_52 : decode cX4_slide 52 = .ok (.iaload, 1) := by decide +kernel
theorem dX4_slide_53 : decode cX4_slide 53 = .ok (.iconst 1, 1) := by decide +kernel
theorem dX4_slide_54 : decode cX4_slide 54 = .ok (.iadd, 1) := by decide +kernel
theorem dX4_slide_55 : decode cX4_slide 55 = .ok (.iastore, 1) := by decide +kernel
theorem dX4_slide_56 : decode cX4_slide 56 = .ok (.goto 31, 3) := by decide +kernel
theorem dX4_slide_59 : decode cX4_slide 59 = .ok (.iload_n 3, 1) := by decide +kernel
theorem dX4_slide_60 : decode cX4_slide 60 = .ok (.iload_n 1, 1) := by decide +kernel
theorem dX4_slide_61 : decode cX4_slide 61 = .ok (.ineg, 1) := by decide +kernel
theorem dX4_slide_62 : decode cX4_slide 62 = .ok (.if_icmp .ge 25, 3) := by decide +kernel
theorem dX4_slide_65 : decode cX4_slide 65 = .ok (.aload_n 0, 1) := by decide +kernel
theorem dX4_slide_66 : decode cX4_slide 66 = .ok (.getfield 9, 3) := by decide +kernel
theorem dX4_slide_69 : decode cX4_slide 69 = .ok (.iload_n 2, 1) := by decide +kernel
theorem dX4_slide_70 : decode cX4_slide 70 = .ok (.dup2, 1) := by decide +kernel
theorem dX4_slide_71 : decode cX4_slide 71 = .ok (.iaload, 1) := by decide +kernel
theorem dX4_slide_72 : decode cX4_slide 72 = .ok (.iconst 1, 1) := by decide +kernel
theorem dX4_slide_73 : decode cX4_slide 73 = .ok (.iadd, 1) := by decide +kernel
theorem dX4_slide_74 : decode cX4_slide 74 = .ok (.iastore, 1) := by decide +kernel
theorem dX4_slide_75 : decode cX4_slide 75 = .ok (.aload_n 0, 1) := by decide +kernel
theorem dX4_slide_76 : decode cX4_slide 76 = .ok (.getfield 9, 3) := by decide +kernel
theorem dX4_slide_79 : decode cX4_slide 79 = .ok (.iload_n 2, 1) := by decide +kernel
theorem dX4_slide_80 : decode cX4_slide 80 = .ok (.iconst 3, 1) := by decide +kernel
theorem dX4_slide_81 : decode cX4_slide 81 = .ok (.iadd, 1) := by decide +kernel
theorem dX4_slide_82 : decode cX4_slide 82 = .ok (.dup2, 1) := by decide +kernel
theorem dX4_slide_83 : decode cX4_slide 83 = .ok (.iaload, 1) := by decide +kernel
theorem dX4_slide_84 : decode cX4_slide 84 = .ok (.iconst 1, 1) := by decide +kernel
theorem dX4_slide_85 : decode cX4_slide 85 = .ok (.isub, 1) := by decide +kernel
theorem dX4_slide_86 : decode cX4_slide 86 = .ok (.iastore, 1) := by decide +kernel
theorem dX4_slide_87 : decode cX4_slide 87 = .ok (.iinc 2 1, 3) := by decide +kernel
theorem dX4_slide_90 : decode cX4_slide 90 = .ok (.goto (-88), 3) := by decide +kernel
theorem dX4_slide_93 : decode cX4_slide 93 = .ok (.return_, 1) := by decide +kernel
theorem dX4_cutShoulders_0 : decode cX4_cutShoulders 0 = .ok (.iconst 0, 1) := by decide +kernel
theorem dX4_cutShoulders_1 : decode cX4_cutShoulders 1 = .ok (.istore_n 2, 1) := by decide +kernel
theorem dX4_cutShoulders_2 : decode cX4_cutShoulders 2 = .ok (.iconst 0, 1) := by decide +kernel
theorem dX4_cutShoulders_3 : decode cX4_cutShoulders 3 = .ok (.istore_n 3, 1) := by decide +kernel
theorem dX4_cutShoulders_4 : decode cX4_cutShoulders 4 = .ok (.iload_n 3, 1) := by decide +kernel
theorem dX4_cutShoulders_5 : decode cX4_cutShoulders 5 = .ok (.aload_n 0, 1) := by decide +kernel
theorem dX4_cutShoulders_6 : decode cX4_cutShoulders 6 = .ok (.getfield 9, 3) := by decide +kernel
theorem dX4_cutShoulders_9 : decode cX4_cutShoulders 9 = .ok (.arraylength, 1) := by decide +kernel
theorem dX4_cutShoulders_10 : decode cX4_cutShoulders 10 = .ok (.if_icmp .ge 47, 3) := by decide +kernel
theorem dX4_cutShoulders_13 : decode cX4_cutShoulders 13 = .ok (.aload_n 0, 1) := by decide +kernel
theorem dX4_cutShoulders_14 : decode cX4_cutShoulders 14 = .ok (.getfield 9, 3) := by decide +kernel
theorem dX4_cutShoulders_17 : decode cX4_cutShoulders 17 = .ok (.iload_n 3, 1) := by decide +kernel
theorem dX4_cutShoulders_18 : decode cX4_cutShoulders 18 = .ok (.iaload, 1) := by decide +kernel
theorem dX4_cutShoulders_19 : decode cX4_cutShoulders 19 = .ok (.iload_n 1, 1) := by decide +kernel
theorem dX4_cutShoulders_20 : decode cX4_cutShoulders 20 = .ok (.isub, 1) := by decide +kernel
theorem dX4_cutShoulders_21 : decode cX4_cutShoulders 21 = .ok (.istore 4, 2) := by decide +kernel
theorem dX4_cutShoulders_23 : decode cX4_cutShoulders 23 = .ok (.iload_n 3, 1) := by decide +kernel
theorem dX4_cutShoulders_24 : decode cX4_cutShoulders 24 = .ok (.iconst 3, 1) := by decide +kernel
theorem dX4_cutShoulders_25 : decode cX4_cutShoulders 25 = .ok (.irem, 1) := by decide +kernel
theorem dX4_cutShoulders_26 : decode cX4_cutShoulders 26 = .ok (.iconst 1, 1) := by decide +kernel
theorem dX4_cutShoulders_27 : decode cX4_cutShoulders 27 = .ok (.if_icmp .eq 24, 3) := by decide +kernel
theorem dX4_cutShoulders_30 : decode cX4_cutShoulders 30 = .ok (.iload 4, 2) := by decide +kernel
theorem dX4_cutShoulders_32 : decode cX4_cutShoulders 32 = .ok (.ifCond .le 19, 3) := by decide +kernel
theorem dX4_cutShoulders_35 : decode cX4_cutShoulders 35 = .ok (.aload_n 0, 1) := by decide +kernel
theorem dX4_cutShoulders_36 : decode cX4_cutShoulders 36 = .ok (.getfield 9, 3) := by decide +kernel
theorem dX4_cutShoulders_39 : decode cX4_cutShoulders 39 = .ok (.iload_n 3, 1) := by decide +kernel
theorem dX4_cutShoulders_40 : decode cX4_cutShoulders 40 = .ok (.dup2, 1) := by decide +kernel
theorem dX4_cutShoulders_41 : decode cX4_cutShoulders 41 = .ok (.iaload, 1) := by decide +kernel
theorem dX4_cutShoulders_42 : decode cX4_cutShoulders 42 = .ok (.iload 4, 2) := by decide +kernel
theorem dX4_cutShoulders_44 : decode cX4_cutShoulders 44 = .ok (.isub, 1) := by decide +kernel
theorem dX4_cutShoulders_45 : decode cX4_cutShoulders 45 = .ok (.iastore, 1) := by decide +kernel
theorem dX4_cutShoulders_46 : decode cX4_cutShoulders 46 = .ok (.iload_n 2, 1) := by decide +kernel
theorem dX4_cutShoulders_47 : decode cX4_cutShoulders 47 = .ok (.iload 4, 2) := by decide +kernel
theorem dX4_cutShoulders_49 : decode cX4_cutShoulders 49 = .ok (.iadd, 1) := by decide +kernel
theorem dX4_cutShoulders_50 : decode cX4_cutShoulders 50 = .ok (.istore_n 2, 1) := by decide +kernel
theorem dX4_cutShoulders_51 : decode cX4_cutShoulders 51 = .ok (.iinc 3 1, 3) := by decide +kernel
theorem dX4_cutShoulders_54 : decode cX4_cutShoulders 54 = .ok (.goto (-50), 3) := by decide +kernel
theorem dX4_cutShoulders_57 : decode cX4_cutShoulders 57 = .ok (.iload_n 2, 1) := by decide +kernel
theorem dX4_cutShoulders_58 : decode cX4_cutShoulders 58 = .ok (.ireturn, 1) := by decide +kernel
theorem dX4_units_0 : decode cX4_units 0 = .ok (.aload_n 0, 1) := by decide +kernel
theorem dX4_units_1 : decode cX4_units 1 = .ok (.getfield 9, 3) := by decide +kernel
theorem dX4_units_4 : decode cX4_units 4 = .ok (.invokestatic 19, 3) := by decide +kernel
theorem dX4_units_7 : decode cX4_units 7 = .ok (.ireturn, 1) := by decide +kernel
theorem dX5_init_0 : decode cX5_init 0 = .ok (.aload_n 0, 1) := by decide +kernel
theorem dX5_init_1 : decode cX5_init 1 = .ok (.invokespecial 3, 3) := by decide +kernel
theorem dX5_init_4 : decode cX5_init 4 = .ok (.aload_n 0, 1) := by decide +kernel
theorem dX5_init_5 : decode cX5_init 5 = .ok (.iconst 3, 1) := by decide +kernel
theorem dX5_init_6 : decode cX5_init 6 = .ok (.putfield 9, 3) := by decide +kernel
theorem dX5_init_9 : decode cX5_init 9 = .ok (.aload_n 0, 1) := by decide +kernel
theorem dX5_init_10 : decode cX5_init 10 = .ok (.iconst (-1), 1) := by decide +kernel
theorem dX5_init_11 : decode cX5_init 11 = .ok (.putfield 15, 3) := by decide +kernel
theorem dX5_init_14 : decode cX5_init 14 = .ok (.aload_n 0, 1) := by decide +kernel
theorem dX5_init_15 : decode cX5_init 15 = .ok (.iconst 0, 1) := by decide +kernel
theorem dX5_init_16 : decode cX5_init 16 = .ok (.putfield 18, 3) := by decide +kernel
theorem dX5_init_19 : decode cX5_init 19 = .ok (.aload_n 0, 1) := by decide +kernel
theorem dX5_init_20 : decode cX5_init 20 = .ok (.iconst 0, 1) := by decide +kernel
theorem dX5_init_21 : decode cX5_init 21 = .ok (.putfield 21, 3) := by decide +kernel
theorem dX5_init_24 : decode cX5_init 24 = .ok (.aload_n 0, 1) := by decide +kernel
theorem dX5_init_25 : decode cX5_init 25 = .ok (.bipush 6, 2) := by decide +kernel
theorem dX5_init_27 : decode cX5_init 27 = .ok (.newarray .int, 2) := by decide +kernel
theorem dX5_init_29 : decode cX5_init 29 = .ok (.putfield 24, 3) := by decide +kernel
theorem dX5_init_32 : decode cX5_init 32 = .ok (.aload_n 0, 1) := by decide +kernel
theorem dX5_init_33 : decode cX5_init 33 = .ok (.bipush 6, 2) := by decide +kernel
theorem dX5_init_35 : decode cX5_init 35 = .ok (.newarray .int, 2) := by decide +kernel
theorem dX5_init_37 : decode cX5_init 37 = .ok (.putfield 28, 3) := by decide +kernel
theorem dX5_init_40 : decode cX5_init 40 = .ok (.aload_n 0, 1) := by decide +kernel
theorem dX5_init_41 : decode cX5_init 41 = .ok (.bipush 18, 2) := by decide +kernel
theorem dX5_init_43 : decode cX5_init 43 = .ok (.newarray .int, 2) := by decide +kernel
theorem dX5_init_45 : decode cX5_init 45 = .ok (.putfield 31, 3) := by decide +kernel
theorem dX5_init_48 : decode cX5_init 48 = .ok (.aload_n 0, 1) := by decide +kernel
theorem dX5_init_49 : decode cX5_init 49 = .ok (.bipush 18, 2) := by decide +kernel
theorem dX5_init_51 : decode cX5_init 51 = .ok (.newarray .int, 2) := by decide +kernel
theorem dX5_init_53 : decode cX5_init 53 = .ok (.putfield 34, 3) := by decide +kernel
theorem dX5_init_56 : decode cX5_init 56 = .ok (.aload_n 0, 1) := by decide +kernel
theorem dX5_init_57 : decode cX5_init 57 = .ok (.getfield 34, 3) := by decide +kernel
theorem dX5_init_60 : decode cX5_init 60 = .ok (.sipush (-1001), 3) := by decide +kernel
theorem dX5_init_63 : decode cX5_init 63 = .ok (.invokestatic 37, 3) := by decide +kernel
theorem dX5_init_66 : decode cX5_init 66 = .ok (.return_, 1) := by decide +kernel
theorem dX5_replace_0 : decode cX5_replace 0 = .ok (.aload_n 0, 1) := by decide +kernel
theorem dX5_replace_1 : decode cX5_replace 1 = .ok (.iload_n 1, 1) := by decide +kernel
theorem dX5_replace_2 : decode cX5_replace 2 = .ok (.putfield 9, 3) := by decide +kernel
theorem dX5_replace_5 : decode cX5_replace 5 = .ok (.aload_n 0, 1) := by decide +kernel
theorem dX5_replace_6 : decode cX5_replace 6 = .ok (.iconst (-1), 1) := by decide +kernel
theorem dX5_replace_7 : decode cX5_replace 7 = .ok (.putfield 15, 3) := by decide +kernel
theorem dX5_replace_10 : decode cX5_replace 10 = .ok (.aload_n 0, 1) := by decide +kernel
theorem dX5_replace_11 : decode cX5_replace 11 = .ok (.iconst 0, 1) := by decide +kernel
theorem dX5_replace_12 : decode cX5_replace 12 = .ok (.putfield 18, 3) := by decide +kernel
theorem dX5_replace_15 : decode cX5_replace 15 = .ok (.aload_n 0, 1) := by decide +kernel
theorem dX5_replace_16 : decode cX5_replace 16 = .ok (.iconst 0, 1) := by decide +kernel
theorem dX5_replace_17 : decode cX5_replace 17 = .ok (.putfield 21, 3) := by decide +kernel
theorem dX5_replace_20 : decode cX5_replace 20 = .ok (.aload_n 0, 1) := by decide +kernel
theorem dX5_replace_21 : decode cX5_replace 21 = .ok (.getfield 24, 3) := by decide +kernel
theorem dX5_replace_24 : decode cX5_replace 24 = .ok (.iconst 0, 1) := by decide +kernel
theorem dX5_replace_25 : decode cX5_replace 25 = .ok (.invokestatic 37, 3) := by decide +kernel
theorem dX5_replace_28 : decode cX5_replace 28 = .ok (.aload_n 0, 1) := by decide +kernel
theorem dX5_replace_29 : decode cX5_replace 29 = .ok (.getfield 28, 3) := by decide +kernel
theorem dX5_replace_32 : decode cX5_replace 32 = .ok (.iconst 0, 1) := by decide +kernel
theorem dX5_replace_33 : decode cX5_replace 33 = .ok (.invokestatic 37, 3) := by decide +kernel
theorem dX5_replace_36 : decode cX5_replace 36 = .ok (.aload_n 0, 1) := by decide +kernel
theorem dX5_replace_37 : decode cX5_replace 37 = .ok (.getfield 31, 3) := by decide +kernel
theorem dX5_replace_40 : decode cX5_replace 40 = .ok (.iconst 0, 1) := by decide +kernel
theorem dX5_replace_41 : decode cX5_replace 41 = .ok (.invokestatic 37, 3) := by decide +kernel
theorem dX5_replace_44 : decode cX5_replace 44 = .ok (.aload_n 0, 1) := by decide +kernel
theorem dX5_replace_45 : decode cX5_replace 45 = .ok (.getfield 34, 3) := by decide +kernel
theorem dX5_replace_48 : decode cX5_replace 48 = .ok (.sipush (-1001), 3) := by decide +kernel
theorem dX5_replace_51 : decode cX5_replace 51 = .ok (.invokestatic 37, 3) := by decide +kernel
theorem dX5_replace_54 : decode cX5_replace 54 = .ok (.return_, 1) := by decide +kernel
theorem dX5_copyFrom_0 : decode cX5_copyFrom 0 = .ok (.aload_n 0, 1) := by decide +kernel
theorem dX5_copyFrom_1 : decode cX5_copyFrom 1 = .ok (.aload_n 1, 1) := by decide +kernel
theorem dX5_copyFrom_2 : decode cX5_copyFrom 2 = .ok (.getfield 9, 3) := by decide +kernel
theorem dX5_copyFrom_5 : decode cX5_copyFrom 5 = .ok (.putfield 9, 3) := by decide +kernel
theorem dX5_copyFrom_8 : decode cX5_copyFrom 8 = .ok (.aload_n 0, 1) := by decide +kernel
theorem dX5_copyFrom_9 : decode cX5_copyFrom 9 = .ok (.aload_n 1, 1) := by decide +kernel
theorem dX5_copyFrom_10 : decode cX5_copyFrom 10 = .ok (.getfield 15, 3) := by decide +kernel
theorem dX5_copyFrom_13 : decode cX5_copyFrom 13 = .ok (.putfield 15, 3) := by decide +kernel
theorem dX5_copyFrom_16 : decode cX5_copyFrom 16 = .ok (.aload_n 0, 1) := by decide +kernel
theorem dX5_copyFrom_17 : decode cX5_copyFrom 17 = .ok (.aload_n 1, 1) := by decide +kernel
theorem dX5_copyFrom_18 : decode cX5_copyFrom 18 = .ok (.getfield 18, 3) := by decide +kernel
theorem dX5_copyFrom_21 : decode cX5_copyFrom 21 = .ok (.putfield 18, 3) := by decide +kernel
theorem dX5_copyFrom_24 : decode cX5_copyFrom 24 = .ok (.aload_n 0, 1) := by decide +kernel
theorem dX5_copyFrom_25 : decode cX5_copyFrom 25 = .ok (.aload_n 1, 1) := by decide +kernel
theorem dX5_copyFrom_26 : decode cX5_copyFrom 26 = .ok (.getfield 21, 3) := by decide +kernel
theorem dX5_copyFrom_29 : decode cX5_copyFrom 29 = .ok (.putfield 21, 3) := by decide +kernel
theorem dX5_copyFrom_32 : decode cX5_copyFrom 32 = .ok (.aload_n 1, 1) := by decide +kernel
theorem dX5_copyFrom_33 : decode cX5_copyFrom 33 = .ok (.getfield 24, 3) := by decide +kernel
theorem dX5_copyFrom_36 : decode cX5_copyFrom 36 = .ok (.aload_n 0, 1) := by decide +kernel
theorem dX5_copyFrom_37 : decode cX5_copyFrom 37 = .ok (.getfield 24, 3) := by decide +kernel
theorem dX5_copyFrom_40 : decode cX5_copyFrom 40 = .ok (.invokestatic 43, 3) := by decide +kernel
theorem dX5_copyFrom_43 : decode cX5_copyFrom 43 = .ok (.aload_n 1, 1) := by decide +kernel
theorem dX5_copyFrom_44 : decode cX5_copyFrom 44 = .ok (.getfield 28, 3) := by decide +kernel
theorem dX5_copyFrom_47 : decode cX5_copyFrom 47 = .ok (.aload_n 0, 1) := by decide +kernel
theorem dX5_copyFrom_48 : decode cX5_copyFrom 48 = .ok (.getfield 28, 3) := by decide +kernel
theorem dX5_copyFrom_51 : decode cX5_copyFrom 51 = .ok (.invokestatic 43, 3) := by decide +kernel
theorem dX5_copyFrom_54 : decode cX5_copyFrom 54 = .ok (.aload_n 1, 1) := by decide +kernel
theorem dX5_copyFrom_55 : decode cX5_copyFrom 55 = .ok (.getfield 31, 3) := by decide +kernel
theorem dX5_copyFrom_58 : decode cX5_copyFrom 58 = .ok (.aload_n 0, 1) := by decide +kernel
theorem dX5_copyFrom_59 : decode cX5_copyFrom 59 = .ok (.getfield 31, 3) := by decide +kernel
theorem dX5_copyFrom_62 : decode cX5_copyFrom 62 = .ok (.invokestatic 43, 3) := by decide +kernel
theorem dX5_copyFrom_65 : decode cX5_copyFrom 65 = .ok (.aload_n 1, 1) := by decide +kernel
theorem dX5_copyFrom_66 : decode cX5_copyFrom 66 = .ok (.getfield 34, 3) := by decide +kernel
theorem dX5_copyFrom_69 : decode cX5_copyFrom 69 = .ok (.aload_n 0, 1) := by decide +kernel
theorem dX5_copyFrom_70 : decode cX5_copyFrom 70 = .ok (.getfield 34, 3) := by decide +kernel
theorem dX5_copyFrom_73 : decode cX5_copyFrom 73 = .ok (.invokestatic 43, 3) := by decide +kernel
theorem dX5_copyFrom_76 : decode cX5_copyFrom 76 = .ok (.return_, 1) := by decide +kernel
theorem dX5_hasWagon_0 : decode cX5_hasWagon 0 = .ok (.iload_n 1, 1) := by decide +kernel
theorem dX5_hasWagon_1 : decode cX5_hasWagon 1 = .ok (.ifCond .lt 21, 3) := by decide +kernel
theorem dX5_hasWagon_4 : decode cX5_hasWagon 4 = .ok (.iload_n 1, 1) := by decide +kernel
theorem dX5_hasWagon_5 : decode cX5_hasWagon 5 = .ok (.aload_n 0, 1) := by decide +kernel
theorem dX5_hasWagon_6 : decode cX5_hasWagon 6 = .ok (.getfield 9, 3) := by decide +kernel
theorem dX5_hasWagon_9 : decode cX5_hasWagon 9 = .ok (.if_icmp .ge 13, 3) := by decide +kernel
theorem dX5_hasWagon_12 : decode cX5_hasWagon 12 = .ok (.iload_n 1, 1) := by decide +kernel
theorem dX5_hasWagon_13 : decode cX5_hasWagon 13 = .ok (.bipush 6, 2) := by decide +kernel
theorem dX5_hasWagon_15 : decode cX5_hasWagon 15 = .ok (.if_icmp .ge 7, 3) := by decide +kernel
theorem dX5_hasWagon_18 : decode cX5_hasWagon 18 = .ok (.iconst 1, 1) := by decide +kernel
theorem dX5_hasWagon_19 : decode cX5_hasWagon 19 = .ok (.goto 4, 3) := by decide +kernel
theorem dX5_hasWagon_22 : decode cX5_hasWagon 22 = .ok (.iconst 0, 1) := by decide +kernel
theorem dX5_hasWagon_23 : decode cX5_hasWagon 23 = .ok (.ireturn, 1) := by decide +kernel
theorem dX5_hasDoor_0 : decode cX5_hasDoor 0 = .ok (.iload_n 1, 1) := by decide +kernel
theorem dX5_hasDoor_1 : decode cX5_hasDoor 1 = .ok (.ifCond .lt 30, 3) := by decide +kernel
theorem dX5_hasDoor_4 : decode cX5_hasDoor 4 = .ok (.iload_n 1, 1) := by decide +kernel
theorem dX5_hasDoor_5 : decode cX5_hasDoor 5 = .ok (.aload_n 0, 1) := by decide +kernel
theorem dX5_hasDoor_6 : decode cX5_hasDoor 6 = .ok (.getfield 9, 3) := by decide +kernel
theorem dX5_hasDoor_9 : decode cX5_hasDoor 9 = .ok (.if_icmp .ge 22, 3) := by decide +kernel
theorem dX5_hasDoor_12 : decode cX5_hasDoor 12 = .ok (.iload_n 1, 1) := by decide +kernel
theorem dX5_hasDoor_13 : decode cX5_hasDoor 13 = .ok (.bipush 6, 2) := by decide +kernel
theorem dX5_hasDoor_15 : decode cX5_hasDoor 15 = .ok (.if_icmp .ge 16, 3) := by decide +kernel
theorem dX5_hasDoor_18 : decode cX5_hasDoor 18 = .ok (.iload_n 2, 1) := by decide +kernel
theorem dX5_hasDoor_19 : decode cX5_hasDoor 19 = .ok (.ifCond .lt 12, 3) := by decide +kernel
theorem dX5_hasDoor_22 : decode cX5_hasDoor 22 = .ok (.iload_n 2, 1) := by decide +kernel
theorem dX5_hasDoor_23 : decode cX5_hasDoor 23 = .ok (.iconst 3, 1) := by decide +kernel
theorem dX5_hasDoor_24 : decode cX5_hasDoor 24 = .ok (.if_icmp .ge 7, 3) := by decide +kernel
theorem dX5_hasDoor_27 : decode cX5_hasDoor 27 = .ok (.iconst 1, 1) := by decide +kernel
theorem dX5_hasDoor_28 : decode cX5_hasDoor 28 = .ok (.goto 4, 3) := by decide +kernel
theorem dX5_hasDoor_31 : decode cX5_hasDoor 31 = .ok (.iconst 0, 1) := by decide +kernel
theorem dX5_hasDoor_32 : decode cX5_hasDoor 32 = .ok (.ireturn, 1) := by decide +kernel
theorem dX5_levelOf_0 : decode cX5_levelOf 0 = .ok (.aload_n 0, 1) := by decide +kernel
theorem dX5_levelOf_1 : decode cX5_levelOf 1 = .ok (.iload_n 1, 1) := by decide +kernel
theorem dX5_levelOf_2 : decode cX5_levelOf 2 = .ok (.iload_n 2, 1) := by decide +kernel
theorem dX5_levelOf_3 : decode cX5_levelOf 3 = .ok (.invokevirtual 47, 3) := by decide +kernel
theorem dX5_levelOf_6 : decode cX5_levelOf 6 = .ok (.ifCond .eq 16, 3) := by decide +kernel
theorem dX5_levelOf_9 : decode cX5_levelOf 9 = .ok (.aload_n 0, 1) := by decide +kernel
theorem dX5_levelOf_10 : decode cX5_levelOf 10 = .ok (.getfield 31, 3) := by decide +kernel
theorem dX5_levelOf_13 : decode cX5_levelOf 13 = .ok (.iconst 3, 1) := by decide +kernel
theorem dX5_levelOf_14 : decode cX5_levelOf 14 = .ok (.iload_n 1, 1) := by decide +kernel
theorem dX5_levelOf_15 : decode cX5_levelOf 15 = .ok (.imul, 1) := by decide +kernel
theorem dX5_levelOf_16 : decode cX5_levelOf 16 = .ok (.iload_n 2, 1) := by decide +kernel
theorem dX5_levelOf_17 : decode cX5_levelOf 17 = .ok (.iadd, 1) := by decide +kernel
theorem dX5_levelOf_18 : decode cX5_levelOf 18 = .ok (.iaload, 1) := by decide +kernel
theorem dX5_levelOf_19 : decode cX5_levelOf 19 = .ok (.goto 4, 3) := by decide +kernel
theorem dX5_levelOf_22 : decode cX5_levelOf 22 = .ok (.iconst 0, 1) := by decide +kernel
theorem dX5_levelOf_23 : decode cX5_levelOf 23 = .ok (.ireturn, 1) := by decide +kernel
theorem dX5_restOf_0 : decode cX5_restOf 0 = .ok (.aload_n 0, 1) := by decide +kernel
theorem dX5_restOf_1 : decode cX5_restOf 1 = .ok (.iload_n 1, 1) := by decide +kernel
theorem dX5_restOf_2 : decode cX5_restOf 2 = .ok (.iload_n 2, 1) := by decide +kernel
theorem dX5_restOf_3 : decode cX5_restOf 3 = .ok (.invokevirtual 47, 3) := by decide +kernel
theorem dX5_restOf_6 : decode cX5_restOf 6 = .ok (.ifCond .eq 16, 3) := by decide +kernel
theorem dX5_restOf_9 : decode cX5_restOf 9 = .ok (.aload_n 0, 1) := by decide +kernel
theorem dX5_restOf_10 : decode cX5_restOf 10 = .ok (.getfield 34, 3) := by decide +kernel
theorem dX5_restOf_13 : decode cX5_restOf 13 = .ok (.iconst 3, 1) := by decide +kernel
theorem dX5_restOf_14 : decode cX5_restOf 14 = .ok (.iload_n 1, 1) := by decide +kernel
theorem dX5_restOf_15 : decode cX5_restOf 15 = .ok (.imul, 1) := by decide +kernel
theorem dX5_restOf_16 : decode cX5_restOf 16 = .ok (.iload_n 2, 1) := by decide +kernel
theorem dX5_restOf_17 : decode cX5_restOf 17 = .ok (.iadd, 1) := by decide +kernel
theorem dX5_restOf_18 : decode cX5_restOf 18 = .ok (.iaload, 1) := by decide +kernel
theorem dX5_restOf_19 : decode cX5_restOf 19 = .ok (.goto 6, 3) := by decide +kernel
theorem dX5_restOf_22 : decode cX5_restOf 22 = .ok (.sipush (-1001), 3) := by decide +kernel
theorem dX5_restOf_25 : decode cX5_restOf 25 = .ok (.ireturn, 1) := by decide +kernel
theorem dX5_cellBelow_0 : decode cX5_cellBelow 0 = .ok (.aload_n 0, 1) := by decide +kernel
theorem dX5_cellBelow_1 : decode cX5_cellBelow 1 = .ok (.getfield 15, 3) := by decide +kernel
theorem dX5_cellBelow_4 : decode cX5_cellBelow 4 = .ok (.iconst 4, 1) := by decide +kernel
theorem dX5_cellBelow_5 : decode cX5_cellBelow 5 = .ok (.iload_n 1, 1) := by decide +kernel
theorem dX5_cellBelow_6 : decode cX5_cellBelow 6 = .ok (.imul, 1) := by decide +kernel
theorem dX5_cellBelow_7 : decode cX5_cellBelow 7 = .ok (.isub, 1) := by decide +kernel
theorem dX5_cellBelow_8 : decode cX5_cellBelow 8 = .ok (.ireturn, 1) := by decide +kernel
theorem dX5_units_0 : decode cX5_units 0 = .ok (.aload_n 0, 1) := by decide +kernel
theorem dX5_units_1 : decode cX5_units 1 = .ok (.getfield 24, 3) := by decide +kernel
theorem dX5_units_4 : decode cX5_units 4 = .ok (.invokestatic 51, 3) := by decide +kernel
theorem dX5_units_7 : decode cX5_units 7 = .ok (.ireturn, 1) := by decide +kernel
theorem dX5_sumOfLevels_0 : decode cX5_sumOfLevels 0 = .ok (.iconst 0, 1) := by decide +kernel
theorem dX5_sumOfLevels_1 : decode cX5_sumOfLevels 1 = .ok (.istore_n 2, 1) := by decide +kernel
theorem dX5_sumOfLevels_2 : decode cX5_sumOfLevels 2 = .ok (.iconst 0, 1) := by decide +kernel
theorem dX5_sumOfLevels_3 : decode cX5_sumOfLevels 3 = .ok (.istore_n 3, 1) := by decide +kernel
theorem dX5_sumOfLevels_4 : decode cX5_sumOfLevels 4 = .ok (.iload_n 3, 1) := by decide +kernel
theorem dX5_sumOfLevels_5 : decode cX5_sumOfLevels 5 = .ok (.iconst 3, 1) := by decide +kernel
theorem dX5_sumOfLevels_6 : decode cX5_sumOfLevels 6 = .ok (.if_icmp .ge 18, 3) := by decide +kernel
theorem dX5_sumOfLevels_9 : decode cX5_sumOfLevels 9 = .ok (.iload_n 2, 1) := by decide +kernel
theorem dX5_sumOfLevels_10 : decode cX5_sumOfLevels 10 = .ok (.aload_n 0, 1) := by decide +kernel
theorem dX5_sumOfLevels_11 : decode cX5_sumOfLevels 11 = .ok (.iload_n 1, 1) := by decide +kernel
theorem dX5_sumOfLevels_12 : decode cX5_sumOfLevels 12 = .ok (.iload_n 3, 1) := by decide +kernel
theorem dX5_sumOfLevels_13 : decode cX5_sumOfLevels 13 = .ok (.invokevirtual 55, 3) := by decide +kernel
theorem dX5_sumOfLevels_16 : decode cX5_sumOfLevels 16 = .ok (.iadd, 1) := by decide +kernel
theorem dX5_sumOfLevels_17 : decode cX5_sumOfLevels 17 = .ok (.istore_n 2, 1) := by decide +kernel
theorem dX5_sumOfLevels_18 : decode cX5_sumOfLevels 18 = .ok (.iinc 3 1, 3) := by decide +kernel
theorem dX5_sumOfLevels_21 : decode cX5_sumOfLevels 21 = .ok (.goto (-17), 3) := by decide +kernel
theorem dX5_sumOfLevels_24 : decode cX5_sumOfLevels 24 = .ok (.iload_n 2, 1) := by decide +kernel
theorem dX5_sumOfLevels_25 : decode cX5_sumOfLevels 25 = .ok (.ireturn, 1) := by decide +kernel
theorem dX5_closingDoors_0 : decode cX5_closingDoors 0 = .ok (.iconst 0, 1) := by decide +kernel
theorem dX5_closingDoors_1 : decode cX5_closingDoors 1 = .ok (.istore_n 2, 1) := by decide +kernel
theorem dX5_closingDoors_2 : decode cX5_closingDoors 2 = .ok (.iconst 0, 1) := by decide +kernel
theorem dX5_closingDoors_3 : decode cX5_closingDoors 3 = .ok (.istore_n 3, 1) := by decide +kernel
theorem dX5_closingDoors_4 : decode cX5_closingDoors 4 = .ok (.iload_n 3, 1) := by decide +kernel
theorem dX5_closingDoors_5 : decode cX5_closingDoors 5 = .ok (.iconst 3, 1) := by decide +kernel
theorem dX5_closingDoors_6 : decode cX5_closingDoors 6 = .ok (.if_icmp .ge 24, 3) := by decide +kernel
theorem dX5_closingDoors_9 : decode cX5_closingDoors 9 = .ok (.aload_n 0, 1) := by decide +kernel
theorem dX5_closingDoors_10 : decode cX5_closingDoors 10 = .ok (.iload_n 1, 1) := by decide +kernel
theorem dX5_closingDoors_11 : decode cX5_closingDoors 11 = .ok (.iload_n 3, 1) := by decide +kernel
theorem dX5_closingDoors_12 : decode cX5_closingDoors 12 = .ok (.invokevirtual 59, 3) := by decide +kernel
theorem dX5_closingDoors_15 : decode cX5_closingDoors 15 = .ok (.sipush (-1001), 3) := by decide +kernel
theorem dX5_closingDoors_18 : decode cX5_closingDoors 18 = .ok (.if_icmp .eq 6, 3) := by decide +kernel
theorem dX5_closingDoors_21 : decode cX5_closingDoors 21 = .ok (.iinc 2 1, 3) := by decide +kernel
theorem dX5_closingDoors_24 : decode cX5_closingDoors 24 = .ok (.iinc 3 1, 3) := by decide +kernel
theorem dX5_closingDoors_27 : decode cX5_closingDoors 27 = .ok (.goto (-23), 3) := by decide +kernel
theorem dX5_closingDoors_30 : decode cX5_closingDoors 30 = .ok (.iload_n 2, 1) := by decide +kernel
theorem dX5_closingDoors_31 : decode cX5_closingDoors 31 = .ok (.ireturn, 1) := by decide +kernel
theorem dX5_openDoor_0 : decode cX5_openDoor 0 = .ok (.aload_n 0, 1) := by decide +kernel
theorem dX5_openDoor_1 : decode cX5_openDoor 1 = .ok (.iload_n 1, 1) := by decide +kernel
theorem dX5_openDoor_2 : decode cX5_openDoor 2 = .ok (.iload_n 2, 1) := by decide +kernel
theorem dX5_openDoor_3 : decode cX5_openDoor 3 = .ok (.invokevirtual 47, 3) := by decide +kernel
theorem dX5_openDoor_6 : decode cX5_openDoor 6 = .ok (.ifCond .eq 27, 3) := by decide +kernel
theorem dX5_openDoor_9 : decode cX5_openDoor 9 = .ok (.aload_n 0, 1) := by decide +kernel
theorem dX5_openDoor_10 : decode cX5_openDoor 10 = .ok (.getfield 31, 3) := by decide +kernel
theorem dX5_openDoor_13 : decode cX5_openDoor 13 = .ok (.iconst 3, 1) := by decide +kernel
theorem dX5_openDoor_14 : decode cX5_openDoor 14 = .ok (.iload_n 1, 1) := by decide +kernel
theorem dX5_openDoor_15 : decode cX5_openDoor 15 = .ok (.imul, 1) := by decide +kernel
theorem dX5_openDoor_16 : decode cX5_openDoor 16 = .ok (.iload_n 2, 1) := by decide +kernel
theorem dX5_openDoor_17 : decode cX5_openDoor 17 = .ok (.iadd, 1) := by decide +kernel
theorem dX5_openDoor_18 : decode cX5_openDoor 18 = .ok (.iload_n 3, 1) := by decide +kernel
theorem dX5_openDoor_19 : decode cX5_openDoor 19 = .ok (.iastore, 1) := by decide +kernel
theorem dX5_openDoor_20 : decode cX5_openDoor 20 = .ok (.aload_n 0, 1) := by decide +kernel
theorem dX5_openDoor_21 : decode cX5_openDoor 21 = .ok (.getfield 34, 3) := by decide +kernel
theorem dX5_openDoor_24 : decode cX5_openDoor 24 = .ok (.iconst 3, 1) := by decide +kernel
theorem dX5_openDoor_25 : decode cX5_openDoor 25 = .ok (.iload_n 1, 1) := by decide +kernel
theorem dX5_openDoor_26 : decode cX5_openDoor 26 = .ok (.imul, 1) := by decide +kernel
theorem dX5_openDoor_27 : decode cX5_openDoor 27 = .ok (.iload_n 2, 1) := by decide +kernel
theorem dX5_openDoor_28 : decode cX5_openDoor 28 = .ok (.iadd, 1) := by decide +kernel
theorem dX5_openDoor_29 : decode cX5_openDoor 29 = .ok (.sipush (-1001), 3) := by decide +kernel
theorem dX5_openDoor_32 : decode cX5_openDoor 32 = .ok (.iastore, 1) := by decide +kernel
theorem dX5_openDoor_33 : decode cX5_openDoor 33 = .ok (.return_, 1) := by decide +kernel
theorem dX5_closeDoor_0 : decode cX5_closeDoor 0 = .ok (.aload_n 0, 1) := by decide +kernel
theorem dX5_closeDoor_1 : decode cX5_closeDoor 1 = .ok (.iload_n 1, 1) := by decide +kernel
theorem dX5_closeDoor_2 : decode cX5_closeDoor 2 = .ok (.iload_n 2, 1) := by decide +kernel
theorem dX5_closeDoor_3 : decode cX5_closeDoor 3 = .ok (.invokevirtual 47, 3) := by decide +kernel
theorem dX5_closeDoor_6 : decode cX5_closeDoor 6 = .ok (.ifCond .eq 27, 3) := by decide +kernel
theorem dX5_closeDoor_9 : decode cX5_closeDoor 9 = .ok (.aload_n 0, 1) := by decide +kernel
theorem dX5_closeDoor_10 : decode cX5_closeDoor 10 = .ok (.getfield 31, 3) := by decide +kernel
theorem dX5_closeDoor_13 : decode cX5_closeDoor 13 = .ok (.iconst 3, 1) := by decide +kernel
theorem dX5_closeDoor_14 : decode cX5_closeDoor 14 = .ok (.iload_n 1, 1) := by decide +kernel
theorem dX5_closeDoor_15 : decode cX5_closeDoor 15 = .ok (.imul, 1) := by decide +kernel
theorem dX5_closeDoor_16 : decode cX5_closeDoor 16 = .ok (.iload_n 2, 1) := by decide +kernel
theorem dX5_closeDoor_17 : decode cX5_closeDoor 17 = .ok (.iadd, 1) := by decide +kernel
theorem dX5_closeDoor_18 : decode cX5_closeDoor 18 = .ok (.iaload, 1) := by decide +kernel
theorem dX5_closeDoor_19 : decode cX5_closeDoor 19 = .ok (.ifCond .eq 14, 3) := by decide +kernel
theorem dX5_closeDoor_22 : decode cX5_closeDoor 22 = .ok (.aload_n 0, 1) := by decide +kernel
theorem dX5_closeDoor_23 : decode cX5_closeDoor 23 = .ok (.getfield 34, 3) := by decide +kernel
theorem dX5_closeDoor_26 : decode cX5_closeDoor 26 = .ok (.iconst 3, 1) := by decide +kernel
theorem dX5_closeDoor_27 : decode cX5_closeDoor 27 = .ok (.iload_n 1, 1) := by decide +kernel
theorem dX5_closeDoor_28 : decode cX5_closeDoor 28 = .ok (.imul, 1) := by decide +kernel
theorem dX5_closeDoor_29 : decode cX5_closeDoor 29 = .ok (.iload_n 2, 1) := by decide +kernel
theorem dX5_closeDoor_30 : decode cX5_closeDoor 30 = .ok (.iadd, 1) := by decide +kernel
theorem dX5_closeDoor_31 : decode cX5_closeDoor 31 = .ok (.iload_n 3, 1) := by decide +kernel
theorem dX5_closeDoor_32 : decode cX5_closeDoor 32 = .ok (.iastore, 1) := by decide +kernel
theorem dX5_closeDoor_33 : decode cX5_closeDoor 33 = .ok (.return_, 1) := by decide +kernel
theorem dX5_move_0 : decode cX5_move 0 = .ok (.aload_n 0, 1) := by decide +kernel
theorem dX5_move_1 : decode cX5_move 1 = .ok (.getfield 18, 3) := by decide +kernel
theorem dX5_move_4 : decode cX5_move 4 = .ok (.aload_n 0, 1) := by decide +kernel
theorem dX5_move_5 : decode cX5_move 5 = .ok (.getfield 21, 3) := by decide +kernel
theorem dX5_move_8 : decode cX5_move 8 = .ok (.if_icmp .ge 16, 3) := by decide +kernel
theorem dX5_move_11 : decode cX5_move 11 = .ok (.aload_n 0, 1) := by decide +kernel
theorem dX5_move_12 : decode cX5_move 12 = .ok (.dup, 1) := by decide +kernel
theorem dX5_move_13 : decode cX5_move 13 = .ok (.getfield 18, 3) := by decide +kernel
theorem dX5_move_16 : decode cX5_move 16 = .ok (.iconst 1, 1) := by decide +kernel
theorem dX5_move_17 : decode cX5_move 17 = .ok (.iadd, 1) := by decide +kernel
theorem dX5_move_18 : decode cX5_move 18 = .ok (.putfield 18, 3) := by decide +kernel
theorem dX5_move_21 : decode cX5_move 21 = .ok (.goto 24, 3) := by decide +kernel
theorem dX5_move_24 : decode cX5_move 24 = .ok (.aload_n 0, 1) := by decide +kernel
theorem dX5_move_25 : decode cX5_move 25 = .ok (.getfield 18, 3) := by decide +kernel
theorem dX5_move_28 : decode cX5_move 28 = .ok (.aload_n 0, 1) := by decide +kernel
theorem dX5_move_29 : decode cX5_move 29 = .ok (.getfield 21, 3) := by decide +kernel
theorem dX5_move_32 : decode cX5_move 32 = .ok (.if_icmp .le 13, 3) := by decide +kernel
theorem dX5_move_35 : decode cX5_move 35 = .ok (.aload_n 0, 1) := by decide +kernel
theorem dX5_move_36 : decode cX5_move 36 = .ok (.dup, 1) := by decide +kernel
theorem dX5_move_37 : decode cX5_move 37 = .ok (.getfield 18, 3) := by decide +kernel
theorem dX5_move_40 : decode cX5_move 40 = .ok (.iconst 1, 1) := by decide +kernel
theorem dX5_move_41 : decode cX5_move 41 = .ok (.isub, 1) := by decide +kernel
theorem dX5_move_42 : decode cX5_move 42 = .ok (.putfield 18, 3) := by decide +kernel

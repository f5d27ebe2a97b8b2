theorem dX5_closeFurther_85 : decode cX5_closeFurther 85 = .ok (.iload_n 2, 1) := by decide +kernel
theorem dX5_closeFurther_86 : decode cX5_closeFurther 86 = .ok (.iload 4, 2) := by decide +kernel
theorem dX5_closeFurther_88 : decode cX5_closeFurther 88 = .ok (.ifCond .eq 7, 3) := by decide +kernel
theorem dX5_closeFurther_91 : decode cX5_closeFurther 91 = .ok (.iconst 1, 1) := by decide +kernel
theorem dX5_closeFurther_92 : decode cX5_closeFurther 92 = .ok (.goto 4, 3) := by decide +kernel
theorem dX5_closeFurther_95 : decode cX5_closeFurther 95 = .ok (.iconst 0, 1) := by decide +kernel
theorem dX5_closeFurther_96 : decode cX5_closeFurther 96 = .ok (.iadd, 1) := by decide +kernel
theorem dX5_closeFurther_97 : decode cX5_closeFurther 97 = .ok (.istore_n 2, 1) := by decide +kernel
theorem dX5_closeFurther_98 : decode cX5_closeFurther 98 = .ok (.iinc 3 1, 3) := by decide +kernel
theorem dX5_closeFurther_101 : decode cX5_closeFurther 101 = .ok (.goto (-97), 3) := by decide +kernel
theorem dX5_closeFurther_104 : decode cX5_closeFurther 104 = .ok (.iload_n 2, 1) := by decide +kernel
theorem dX5_closeFurther_105 : decode cX5_closeFurther 105 = .ok (.ireturn, 1) := by decide +kernel
theorem dX6_init_0 : decode cX6_init 0 = .ok (.aload_n 0, 1) := by decide +kernel
theorem dX6_init_1 : decode cX6_init 1 = .ok (.invokespecial 1, 3) := by decide +kernel
theorem dX6_init_4 : decode cX6_init 4 = .ok (.aload_n 0, 1) := by decide +kernel
theorem dX6_init_5 : decode cX6_init 5 = .ok (.new 7, 3) := by decide +kernel
theorem dX6_init_8 : decode cX6_init 8 = .ok (.dup, 1) := by decide +kernel
theorem dX6_init_9 : decode cX6_init 9 = .ok (.invokespecial 9, 3) := by decide +kernel
theorem dX6_init_12 : decode cX6_init 12 = .ok (.putfield 10, 3) := by decide +kernel
theorem dX6_init_15 : decode cX6_init 15 = .ok (.aload_n 0, 1) := by decide +kernel
theorem dX6_init_16 : decode cX6_init 16 = .ok (.new 16, 3) := by decide +kernel
theorem dX6_init_19 : decode cX6_init 19 = .ok (.dup, 1) := by decide +kernel
theorem dX6_init_20 : decode cX6_init 20 = .ok (.invokespecial 18, 3) := by decide +kernel
theorem dX6_init_23 : decode cX6_init 23 = .ok (.putfield 19, 3) := by decide +kernel
theorem dX6_init_26 : decode cX6_init 26 = .ok (.aload_n 0, 1) := by decide +kernel
theorem dX6_init_27 : decode cX6_init 27 = .ok (.new 16, 3) := by decide +kernel
theorem dX6_init_30 : decode cX6_init 30 = .ok (.dup, 1) := by decide +kernel
theorem dX6_init_31 : decode cX6_init 31 = .ok (.invokespecial 18, 3) := by decide +kernel
theorem dX6_init_34 : decode cX6_init 34 = .ok (.putfield 23, 3) := by decide +kernel
theorem dX6_init_37 : decode cX6_init 37 = .ok (.aload_n 0, 1) := by decide +kernel
theorem dX6_init_38 : decode cX6_init 38 = .ok (.new 26, 3) := by decide +kernel
theorem dX6_init_41 : decode cX6_init 41 = .ok (.dup, 1) := by decide +kernel
theorem dX6_init_42 : decode cX6_init 42 = .ok (.invokespecial 28, 3) := by decide +kernel
theorem dX6_init_45 : decode cX6_init 45 = .ok (.putfield 29, 3) := by decide +kernel
theorem dX6_init_48 : decode cX6_init 48 = .ok (.return_, 1) := by decide +kernel
theorem dX6_type_0 : decode cX6_type 0 = .ok (.iload_n 1, 1) := by decide +kernel
theorem dX6_type_1 : decode cX6_type 1 = .ok (.iconst 0, 1) := by decide +kernel
theorem dX6_type_2 : decode cX6_type 2 = .ok (.bipush 127, 2) := by decide +kernel
theorem dX6_type_4 : decode cX6_type 4 = .ok (.invokestatic 33, 3) := by decide +kernel
theorem dX6_type_7 : decode cX6_type 7 = .ok (.ifCond .ne 7, 3) := by decide +kernel
theorem dX6_type_10 : decode cX6_type 10 = .ok (.sipush (-1002), 3) := by decide +kernel
theorem dX6_type_13 : decode cX6_type 13 = .ok (.ireturn, 1) := by decide +kernel
theorem dX6_type_14 : decode cX6_type 14 = .ok (.aload_n 0, 1) := by decide +kernel
theorem dX6_type_15 : decode cX6_type 15 = .ok (.getfield 10, 3) := by decide +kernel
theorem dX6_type_18 : decode cX6_type 18 = .ok (.iload_n 1, 1) := by decide +kernel
theorem dX6_type_19 : decode cX6_type 19 = .ok (.invokevirtual 37, 3) := by decide +kernel
theorem dX6_type_22 : decode cX6_type 22 = .ok (.ifCond .eq 13, 3) := by decide +kernel
theorem dX6_type_25 : decode cX6_type 25 = .ok (.aload_n 0, 1) := by decide +kernel
theorem dX6_type_26 : decode cX6_type 26 = .ok (.getfield 10, 3) := by decide +kernel
theorem dX6_type_29 : decode cX6_type 29 = .ok (.getfield 41, 3) := by decide +kernel
theorem dX6_type_32 : decode cX6_type 32 = .ok (.goto 6, 3) := by decide +kernel
theorem dX6_type_35 : decode cX6_type 35 = .ok (.sipush (-1004), 3) := by decide +kernel
theorem dX6_type_38 : decode cX6_type 38 = .ok (.ireturn, 1) := by decide +kernel
theorem dX6_clearText_0 : decode cX6_clearText 0 = .ok (.aload_n 0, 1) := by decide +kernel
theorem dX6_clearText_1 : decode cX6_clearText 1 = .ok (.getfield 10, 3) := by decide +kernel
theorem dX6_clearText_4 : decode cX6_clearText 4 = .ok (.getfield 41, 3) := by decide +kernel
theorem dX6_clearText_7 : decode cX6_clearText 7 = .ok (.istore_n 1, 1) := by decide +kernel
theorem dX6_clearText_8 : decode cX6_clearText 8 = .ok (.aload_n 0, 1) := by decide +kernel
theorem dX6_clearText_9 : decode cX6_clearText 9 = .ok (.getfield 10, 3) := by decide +kernel
theorem dX6_clearText_12 : decode cX6_clearText 12 = .ok (.iconst 0, 1) := by decide +kernel
theorem dX6_clearText_13 : decode cX6_clearText 13 = .ok (.putfield 41, 3) := by decide +kernel
theorem dX6_clearText_16 : decode cX6_clearText 16 = .ok (.iload_n 1, 1) := by decide +kernel
theorem dX6_clearText_17 : decode cX6_clearText 17 = .ok (.ireturn, 1) := by decide +kernel
theorem dX6_fault_0 : decode cX6_fault 0 = .ok (.aload_n 0, 1) := by decide +kernel
theorem dX6_fault_1 : decode cX6_fault 1 = .ok (.getfield 10, 3) := by decide +kernel
theorem dX6_fault_4 : decode cX6_fault 4 = .ok (.invokevirtual 45, 3) := by decide +kernel
theorem dX6_fault_7 : decode cX6_fault 7 = .ok (.aload_n 0, 1) := by decide +kernel
theorem dX6_fault_8 : decode cX6_fault 8 = .ok (.getfield 10, 3) := by decide +kernel
theorem dX6_fault_11 : decode cX6_fault 11 = .ok (.getfield 48, 3) := by decide +kernel
theorem dX6_fault_14 : decode cX6_fault 14 = .ok (.ireturn, 1) := by decide +kernel
theorem dX6_set_0 : decode cX6_set 0 = .ok (.iload_n 1, 1) := by decide +kernel
theorem dX6_set_1 : decode cX6_set 1 = .ok (.iconst 0, 1) := by decide +kernel
theorem dX6_set_2 : decode cX6_set 2 = .ok (.iconst 4, 1) := by decide +kernel
theorem dX6_set_3 : decode cX6_set 3 = .ok (.invokestatic 33, 3) := by decide +kernel
theorem dX6_set_6 : decode cX6_set 6 = .ok (.ifCond .eq 20, 3) := by decide +kernel
theorem dX6_set_9 : decode cX6_set 9 = .ok (.iload_n 2, 1) := by decide +kernel
theorem dX6_set_10 : decode cX6_set 10 = .ok (.getstatic 51, 3) := by decide +kernel
theorem dX6_set_13 : decode cX6_set 13 = .ok (.iload_n 1, 1) := by decide +kernel
theorem dX6_set_14 : decode cX6_set 14 = .ok (.iaload, 1) := by decide +kernel
theorem dX6_set_15 : decode cX6_set 15 = .ok (.getstatic 55, 3) := by decide +kernel
theorem dX6_set_18 : decode cX6_set 18 = .ok (.iload_n 1, 1) := by decide +kernel
theorem dX6_set_19 : decode cX6_set 19 = .ok (.iaload, 1) := by decide +kernel
theorem dX6_set_20 : decode cX6_set 20 = .ok (.invokestatic 33, 3) := by decide +kernel
theorem dX6_set_23 : decode cX6_set 23 = .ok (.ifCond .ne 7, 3) := by decide +kernel
theorem dX6_set_26 : decode cX6_set 26 = .ok (.sipush (-1002), 3) := by decide +kernel
theorem dX6_set_29 : decode cX6_set 29 = .ok (.ireturn, 1) := by decide +kernel
theorem dX6_set_30 : decode cX6_set 30 = .ok (.aload_n 0, 1) := by decide +kernel
theorem dX6_set_31 : decode cX6_set 31 = .ok (.getfield 29, 3) := by decide +kernel
theorem dX6_set_34 : decode cX6_set 34 = .ok (.aload_n 0, 1) := by decide +kernel
theorem dX6_set_35 : decode cX6_set 35 = .ok (.getfield 19, 3) := by decide +kernel
theorem dX6_set_38 : decode cX6_set 38 = .ok (.invokevirtual 58, 3) := by decide +kernel
theorem dX6_set_41 : decode cX6_set 41 = .ok (.aload_n 0, 1) := by decide +kernel
theorem dX6_set_42 : decode cX6_set 42 = .ok (.getfield 19, 3) := by decide +kernel
theorem dX6_set_45 : decode cX6_set 45 = .ok (.getfield 62, 3) := by decide +kernel
theorem dX6_set_48 : decode cX6_set 48 = .ok (.iload_n 1, 1) := by decide +kernel
theorem dX6_set_49 : decode cX6_set 49 = .ok (.iaload, 1) := by decide +kernel
theorem dX6_set_50 : decode cX6_set 50 = .ok (.istore_n 3, 1) := by decide +kernel
theorem dX6_set_51 : decode cX6_set 51 = .ok (.aload_n 0, 1) := by decide +kernel
theorem dX6_set_52 : decode cX6_set 52 = .ok (.getfield 19, 3) := by decide +kernel
theorem dX6_set_55 : decode cX6_set 55 = .ok (.getfield 62, 3) := by decide +kernel
theorem dX6_set_58 : decode cX6_set 58 = .ok (.iload_n 1, 1) := by decide +kernel
theorem dX6_set_59 : decode cX6_set 59 = .ok (.iload_n 2, 1) := by decide +kernel
theorem dX6_set_60 : decode cX6_set 60 = .ok (.iastore, 1) := by decide +kernel
theorem dX6_set_61 : decode cX6_set 61 = .ok (.iload_n 3, 1) := by decide +kernel
theorem dX6_set_62 : decode cX6_set 62 = .ok (.ireturn, 1) := by decide +kernel
theorem dX6_setTrain_0 : decode cX6_setTrain 0 = .ok (.iload_n 1, 1) := by decide +kernel
theorem dX6_setTrain_1 : decode cX6_setTrain 1 = .ok (.iconst 1, 1) := by decide +kernel
theorem dX6_setTrain_2 : decode cX6_setTrain 2 = .ok (.bipush 6, 2) := by decide +kernel
theorem dX6_setTrain_4 : decode cX6_setTrain 4 = .ok (.invokestatic 33, 3) := by decide +kernel
theorem dX6_setTrain_7 : decode cX6_setTrain 7 = .ok (.ifCond .ne 7, 3) := by decide +kernel
theorem dX6_setTrain_10 : decode cX6_setTrain 10 = .ok (.sipush (-1002), 3) := by decide +kernel
theorem dX6_setTrain_13 : decode cX6_setTrain 13 = .ok (.ireturn, 1) := by decide +kernel
theorem dX6_setTrain_14 : decode cX6_setTrain 14 = .ok (.aload_n 0, 1) := by decide +kernel
theorem dX6_setTrain_15 : decode cX6_setTrain 15 = .ok (.getfield 29, 3) := by decide +kernel
theorem dX6_setTrain_18 : decode cX6_setTrain 18 = .ok (.aload_n 0, 1) := by decide +kernel
theorem dX6_setTrain_19 : decode cX6_setTrain 19 = .ok (.getfield 19, 3) := by decide +kernel
theorem dX6_setTrain_22 : decode cX6_setTrain 22 = .ok (.invokevirtual 58, 3) := by decide +kernel
theorem dX6_setTrain_25 : decode cX6_setTrain 25 = .ok (.aload_n 0, 1) := by decide +kernel
theorem dX6_setTrain_26 : decode cX6_setTrain 26 = .ok (.getfield 19, 3) := by decide +kernel
theorem dX6_setTrain_29 : decode cX6_setTrain 29 = .ok (.getfield 65, 3) := by decide +kernel
theorem dX6_setTrain_32 : decode cX6_setTrain 32 = .ok (.invokevirtual 69, 3) := by decide +kernel
theorem dX6_setTrain_35 : decode cX6_setTrain 35 = .ok (.istore_n 2, 1) := by decide +kernel
theorem dX6_setTrain_36 : decode cX6_setTrain 36 = .ok (.aload_n 0, 1) := by decide +kernel
theorem dX6_setTrain_37 : decode cX6_setTrain 37 = .ok (.getfield 19, 3) := by decide +kernel
theorem dX6_setTrain_40 : decode cX6_setTrain 40 = .ok (.getfield 65, 3) := by decide +kernel
theorem dX6_setTrain_43 : decode cX6_setTrain 43 = .ok (.iload_n 1, 1) := by decide +kernel
theorem dX6_setTrain_44 : decode cX6_setTrain 44 = .ok (.invokevirtual 75, 3) := by decide +kernel
theorem dX6_setTrain_47 : decode cX6_setTrain 47 = .ok (.aload_n 0, 1) := by decide +kernel
theorem dX6_setTrain_48 : decode cX6_setTrain 48 = .ok (.getfield 19, 3) := by decide +kernel
theorem dX6_setTrain_51 : decode cX6_setTrain 51 = .ok (.dup, 1) := by decide +kernel
theorem dX6_setTrain_52 : decode cX6_setTrain 52 = .ok (.getfield 79, 3) := by decide +kernel
theorem dX6_setTrain_55 : decode cX6_setTrain 55 = .ok (.iload_n 2, 1) := by decide +kernel
theorem dX6_setTrain_56 : decode cX6_setTrain 56 = .ok (.iadd, 1) := by decide +kernel
theorem dX6_setTrain_57 : decode cX6_setTrain 57 = .ok (.putfield 79, 3) := by decide +kernel
theorem dX6_setTrain_60 : decode cX6_setTrain 60 = .ok (.iload_n 2, 1) := by decide +kernel
theorem dX6_setTrain_61 : decode cX6_setTrain 61 = .ok (.ireturn, 1) := by decide +kernel
theorem dX6_load_0 : decode cX6_load 0 = .ok (.aload_n 0, 1) := by decide +kernel
theorem dX6_load_1 : decode cX6_load 1 = .ok (.getfield 19, 3) := by decide +kernel
theorem dX6_load_4 : decode cX6_load 4 = .ok (.getfield 65, 3) := by decide +kernel
theorem dX6_load_7 : decode cX6_load 7 = .ok (.iload_n 1, 1) := by decide +kernel
theorem dX6_load_8 : decode cX6_load 8 = .ok (.invokevirtual 82, 3) := by decide +kernel
theorem dX6_load_11 : decode cX6_load 11 = .ok (.ifCond .eq 14, 3) := by decide +kernel
theorem dX6_load_14 : decode cX6_load 14 = .ok (.iload_n 2, 1) := by decide +kernel
theorem dX6_load_15 : decode cX6_load 15 = .ok (.iconst 1, 1) := by decide +kernel
theorem dX6_load_16 : decode cX6_load 16 = .ok (.sipush 200, 3) := by decide +kernel
theorem dX6_load_19 : decode cX6_load 19 = .ok (.invokestatic 33, 3) := by decide +kernel
theorem dX6_load_22 : decode cX6_load 22 = .ok (.ifCond .ne 7, 3) := by decide +kernel
theorem dX6_load_25 : decode cX6_load 25 = .ok (.sipush (-1002), 3) := by decide +kernel
theorem dX6_load_28 : decode cX6_load 28 = .ok (.ireturn, 1) := by decide +kernel
theorem dX6_load_29 : decode cX6_load 29 = .ok (.aload_n 0, 1) := by decide +kernel
theorem dX6_load_30 : decode cX6_load 30 = .ok (.getfield 19, 3) := by decide +kernel
theorem dX6_load_33 : decode cX6_load 33 = .ok (.getfield 65, 3) := by decide +kernel
theorem dX6_load_36 : decode cX6_load 36 = .ok (.getfield 85, 3) := by decide +kernel
theorem dX6_load_39 : decode cX6_load 39 = .ok (.ifCond .eq 7, 3) := by decide +kernel
theorem dX6_load_42 : decode cX6_load 42 = .ok (.sipush (-1003), 3) := by decide +kernel
theorem dX6_load_45 : decode cX6_load 45 = .ok (.ireturn, 1) := by decide +kernel
theorem dX6_load_46 : decode cX6_load 46 = .ok (.aload_n 0, 1) := by decide +kernel
theorem dX6_load_47 : decode cX6_load 47 = .ok (.getfield 19, 3) := by decide +kernel
theorem dX6_load_50 : decode cX6_load 50 = .ok (.getfield 65, 3) := by decide +kernel
theorem dX6_load_53 : decode cX6_load 53 = .ok (.getfield 88, 3) := by decide +kernel
theorem dX6_load_56 : decode cX6_load 56 = .ok (.iload_n 1, 1) := by decide +kernel
theorem dX6_load_57 : decode cX6_load 57 = .ok (.iaload, 1) := by decide +kernel
theorem dX6_load_58 : decode cX6_load 58 = .ok (.iload_n 2, 1) := by decide +kernel
theorem dX6_load_59 : decode cX6_load 59 = .ok (.iadd, 1) := by decide +kernel
theorem dX6_load_60 : decode cX6_load 60 = .ok (.sipush 200, 3) := by decide +kernel
theorem dX6_load_63 : decode cX6_load 63 = .ok (.if_icmp .le 7, 3) := by decide +kernel
theorem dX6_load_66 : decode cX6_load 66 = .ok (.sipush (-1004), 3) := by decide +kernel
theorem dX6_load_69 : decode cX6_load 69 = .ok (.ireturn, 1) := by decide +kernel
theorem dX6_load_70 : decode cX6_load 70 = .ok (.aload_n 0, 1) := by decide +kernel
theorem dX6_load_71 : decode cX6_load 71 = .ok (.getfield 29, 3) := by decide +kernel
theorem dX6_load_74 : decode cX6_load 74 = .ok (.aload_n 0, 1) := by decide +kernel
theorem dX6_load_75 : decode cX6_load 75 = .ok (.getfield 19, 3) := by decide +kernel
theorem dX6_load_78 : decode cX6_load 78 = .ok (.invokevirtual 58, 3) := by decide +kernel
theorem dX6_load_81 : decode cX6_load 81 = .ok (.aload_n 0, 1) := by decide +kernel
theorem dX6_load_82 : decode cX6_load 82 = .ok (.getfield 19, 3) := by decide +kernel
theorem dX6_load_85 : decode cX6_load 85 = .ok (.getfield 65, 3) := by decide +kernel
theorem dX6_load_88 : decode cX6_load 88 = .ok (.getfield 88, 3) := by decide +kernel
theorem dX6_load_91 : decode cX6_load 91 = .ok (.iload_n 1, 1) := by decide +kernel
theorem dX6_load_92 : decode cX6_load 92 = .ok (.dup2, 1) := by decide +kernel
theorem dX6_load_93 : decode cX6_load 93 = .ok (.iaload, 1) := by decide +kernel
theorem dX6_load_94 : decode cX6_load 94 = .ok (.iload_n 2, 1) := by decide +kernel
theorem dX6_load_95 : decode cX6_load 95 = .ok (.iadd, 1) := by decide +kernel
theorem dX6_load_96 : decode cX6_load 96 = .ok (.iastore, 1) := by decide +kernel
theorem dX6_load_97 : decode cX6_load 97 = .ok (.aload_n 0, 1) := by decide +kernel
theorem dX6_load_98 : decode cX6_load 98 = .ok (.getfield 19, 3) := by decide +kernel
theorem dX6_load_101 : decode cX6_load 101 = .ok (.dup, 1) := by decide +kernel
theorem dX6_load_102 : decode cX6_load 102 = .ok (.getfield 91, 3) := by decide +kernel
theorem dX6_load_105 : decode cX6_load 105 = .ok (.iload_n 2, 1) := by decide +kernel
theorem dX6_load_106 : decode cX6_load 106 = .ok (.iadd, 1) := by decide +kernel
theorem dX6_load_107 : decode cX6_load 107 = .ok (.putfield 91, 3) := by decide +kernel
theorem dX6_load_110 : decode cX6_load 110 = .ok (.aload_n 0, 1) := by decide +kernel
theorem dX6_load_111 : decode cX6_load 111 = .ok (.getfield 19, 3) := by decide +kernel
theorem dX6_load_114 : decode cX6_load 114 = .ok (.getfield 65, 3) := by decide +kernel
theorem dX6_load_117 : decode cX6_load 117 = .ok (.getfield 88, 3) := by decide +kernel
theorem dX6_load_120 : decode cX6_load 120 = .ok (.iload_n 1, 1) := by decide +kernel
theorem dX6_load_121 : decode cX6_load 121 = .ok (.iaload, 1) := by decide +kernel
theorem dX6_load_122 : decode cX6_load 122 = .ok (.ireturn, 1) := by decide +kernel
theorem dX6_door_0 : decode cX6_door 0 = .ok (.aload_n 0, 1) := by decide +kernel
theorem dX6_door_1 : decode cX6_door 1 = .ok (.getfield 19, 3) := by decide +kernel
theorem dX6_door_4 : decode cX6_door 4 = .ok (.getfield 65, 3) := by decide +kernel
theorem dX6_door_7 : decode cX6_door 7 = .ok (.iload_n 1, 1) := by decide +kernel
theorem dX6_door_8 : decode cX6_door 8 = .ok (.iload_n 2, 1) := by decide +kernel
theorem dX6_door_9 : decode cX6_door 9 = .ok (.invokevirtual 94, 3) := by decide +kernel
theorem dX6_door_12 : decode cX6_door 12 = .ok (.ifCond .eq 12, 3) := by decide +kernel
theorem dX6_door_15 : decode cX6_door 15 = .ok (.iload_n 3, 1) := by decide +kernel
theorem dX6_door_16 : decode cX6_door 16 = .ok (.iconst 0, 1) := by decide +kernel
theorem dX6_door_17 : decode cX6_door 17 = .ok (.iconst 3, 1) := by decide +kernel
theorem dX6_door_18 : decode cX6_door 18 = .ok (.invokestatic 33, 3) := by decide +kernel
theorem dX6_door_21 : decode cX6_door 21 = .ok (.ifCond .ne 7, 3) := by decide +kernel
theorem dX6_door_24 : decode cX6_door 24 = .ok (.sipush (-1002), 3) := by decide +kernel
theorem dX6_door_27 : decode cX6_door 27 = .ok (.ireturn, 1) := by decide +kernel
theorem dX6_door_28 : decode cX6_door 28 = .ok (.aload_n 0, 1) := by decide +kernel
theorem dX6_door_29 : decode cX6_door 29 = .ok (.getfield 29, 3) := by decide +kernel
theorem dX6_door_32 : decode cX6_door 32 = .ok (.aload_n 0, 1) := by decide +kernel
theorem dX6_door_33 : decode cX6_door 33 = .ok (.getfield 19, 3) := by decide +kernel
theorem dX6_door_36 : decode cX6_door 36 = .ok (.invokevirtual 58, 3) := by decide +kernel
theorem dX6_door_39 : decode cX6_door 39 = .ok (.aload_n 0, 1) := by decide +kernel
theorem dX6_door_40 : decode cX6_door 40 = .ok (.getfield 19, 3) := by decide +kernel
theorem dX6_door_43 : decode cX6_door 43 = .ok (.getfield 65, 3) := by decide +kernel
theorem dX6_door_46 : decode cX6_door 46 = .ok (.iload_n 1, 1) := by decide +kernel
theorem dX6_door_47 : decode cX6_door 47 = .ok (.iload_n 2, 1) := by decide +kernel
theorem dX6_door_48 : decode cX6_door 48 = .ok (.invokevirtual 98, 3) := by decide +kernel
theorem dX6_door_51 : decode cX6_door 51 = .ok (.istore 4, 2) := by decide +kernel
theorem dX6_door_53 : decode cX6_door 53 = .ok (.iload_n 3, 1) := by decide +kernel
theorem dX6_door_54 : decode cX6_door 54 = .ok (.ifCond .ne 27, 3) := by decide +kernel
theorem dX6_door_57 : decode cX6_door 57 = .ok (.aload_n 0, 1) := by decide +kernel
theorem dX6_door_58 : decode cX6_door 58 = .ok (.getfield 19, 3) := by decide +kernel
theorem dX6_door_61 : decode cX6_door 61 = .ok (.getfield 65, 3) := by decide +kernel
theorem dX6_door_64 : decode cX6_door 64 = .ok (.iload_n 1, 1) := by decide +kernel
theorem dX6_door_65 : decode cX6_door 65 = .ok (.iload_n 2, 1) := by decide +kernel
theorem dX6_door_66 : decode cX6_door 66 = .ok (.aload_n 0, 1) := by decide +kernel
theorem dX6_door_67 : decode cX6_door 67 = .ok (.getfield 19, 3) := by decide +kernel
theorem dX6_door_70 : decode cX6_door 70 = .ok (.getfield 62, 3) := by decide +kernel
theorem dX6_door_73 : decode cX6_door 73 = .ok (.iconst 2, 1) := by decide +kernel
theorem dX6_door_74 : decode cX6_door 74 = .ok (.iaload, 1) := by decide +kernel
theorem dX6_door_75 : decode cX6_door 75 = .ok (.invokevirtual 102, 3) := by decide +kernel
theorem dX6_door_78 : decode cX6_door 78 = .ok (.goto 16, 3) := by decide +kernel
theorem dX6_door_81 : decode cX6_door 81 = .ok (.aload_n 0, 1) := by decide +kernel
theorem dX6_door_82 : decode cX6_door 82 = .ok (.getfield 19, 3) := by decide +kernel
theorem dX6_door_85 : decode cX6_door 85 = .ok (.getfield 65, 3) := by decide +kernel
theorem dX6_door_88 : decode cX6_door 88 = .ok (.iload_n 1, 1) := by decide +kernel
theorem dX6_door_89 : decode cX6_door 89 = .ok (.iload_n 2, 1) := by decide +kernel
theorem dX6_door_90 : decode cX6_door 90 = .ok (.iload_n 3, 1) := by decide +kernel
theorem dX6_door_91 : decode cX6_door 91 = .ok (.invokevirtual 106, 3) := by decide +kernel
theorem dX6_door_94 : decode cX6_door 94 = .ok (.iload 4, 2) := by decide +kernel
theorem dX6_door_96 : decode cX6_door 96 = .ok (.ireturn, 1) := by decide +kernel
theorem dX6_wish_0 : decode cX6_wish 0 = .ok (.iload_n 1, 1) := by decide +kernel
theorem dX6_wish_1 : decode cX6_wish 1 = .ok (.iconst 0, 1) := by decide +kernel
theorem dX6_wish_2 : decode cX6_wish 2 = .ok (.iconst 3, 1) := by decide +kernel
theorem dX6_wish_3 : decode cX6_wish 3 = .ok (.invokestatic 33, 3) := by decide +kernel
theorem dX6_wish_6 : decode cX6_wish 6 = .ok (.ifCond .ne 7, 3) := by decide +kernel
theorem dX6_wish_9 : decode cX6_wish 9 = .ok (.sipush (-1002), 3) := by decide +kernel
theorem dX6_wish_12 : decode cX6_wish 12 = .ok (.ireturn, 1) := by decide +kernel
theorem dX6_wish_13 : decode cX6_wish 13 = .ok (.aload_n 0, 1) := by decide +kernel
theorem dX6_wish_14 : decode cX6_wish 14 = .ok (.getfield 29, 3) := by decide +kernel
theorem dX6_wish_17 : decode cX6_wish 17 = .ok (.aload_n 0, 1) := by decide +kernel
theorem dX6_wish_18 : decode cX6_wish 18 = .ok (.getfield 19, 3) := by decide +kernel
theorem dX6_wish_21 : decode cX6_wish 21 = .ok (.invokevirtual 58, 3) := by decide +kernel
theorem dX6_wish_24 : decode cX6_wish 24 = .ok (.aload_n 0, 1) := by decide +kernel
theorem dX6_wish_25 : decode cX6_wish 25 = .ok (.getfield 19, 3) := by decide +kernel
theorem dX6_wish_28 : decode cX6_wish 28 = .ok (.getfield 65, 3) := by decide +kernel
theorem dX6_wish_31 : decode cX6_wish 31 = .ok (.getfield 109, 3) := by decide +kernel
theorem dX6_wish_34 : decode cX6_wish 34 = .ok (.istore_n 2, 1) := by decide +kernel
theorem dX6_wish_35 : decode cX6_wish 35 = .ok (.aload_n 0, 1) := by decide +kernel
theorem dX6_wish_36 : decode cX6_wish 36 = .ok (.getfield 19, 3) := by decide +kernel
theorem dX6_wish_39 : decode cX6_wish 39 = .ok (.getfield 65, 3) := by decide +kernel
theorem dX6_wish_42 : decode cX6_wish 42 = .ok (.iload_n 1, 1) := by decide +kernel
theorem dX6_wish_43 : decode cX6_wish 43 = .ok (.putfield 109, 3) := by decide +kernel
theorem dX6_wish_46 : decode cX6_wish 46 = .ok (.iload_n 2, 1) := by decide +kernel
theorem dX6_wish_47 : decode cX6_wish 47 = .ok (.ireturn, 1) := by decide +kernel
theorem dX6_order_0 : decode cX6_order 0 = .ok (.aload_n 0, 1) := by decide +kernel
theorem dX6_order_1 : decode cX6_order 1 = .ok (.getfield 10, 3) := by decide +kernel
theorem dX6_order_4 : decode cX6_order 4 = .ok (.invokevirtual 45, 3) := by decide +kernel
theorem dX6_order_7 : decode cX6_order 7 = .ok (.aload_n 0, 1) := by decide +kernel
theorem dX6_order_8 : decode cX6_order 8 = .ok (.getfield 10, 3) := by decide +kernel
theorem dX6_order_11 : decode cX6_order 11 = .ok (.getfield 48, 3) := by decide +kernel
theorem dX6_order_14 : decode cX6_order 14 = .ok (.sipush (-1001), 3) := by decide +kernel
theorem dX6_order_17 : decode cX6_order 17 = .ok (.if_icmp .eq 7, 3) := by decide +kernel
theorem dX6_order_20 : decode cX6_order 20 = .ok (.sipush (-1003), 3) := by decide +kernel
theorem dX6_order_23 : decode cX6_order 23 = .ok (.ireturn, 1) := by decide +kernel
theorem dX6_order_24 : decode cX6_order 24 = .ok (.aload_n 0, 1) := by decide +kernel
theorem dX6_order_25 : decode cX6_order 25 = .ok (.getfield 19, 3) := by decide +kernel
theorem dX6_order_28 : decode cX6_order 28 = .ok (.getfield 112, 3) := by decide +kernel
theorem dX6_order_31 : decode cX6_order 31 = .ok (.invokevirtual 116, 3) := by decide +kernel
theorem dX6_order_34 : decode cX6_order 34 = .ok (.aload_n 0, 1) := by decide +kernel
theorem dX6_order_35 : decode cX6_order 35 = .ok (.getfield 10, 3) := by decide +kernel
theorem dX6_order_38 : decode cX6_order 38 = .ok (.getfield 121, 3) := by decide +kernel
theorem dX6_order_41 : decode cX6_order 41 = .ok (.invokevirtual 116, 3) := by decide +kernel
theorem dX6_order_44 : decode cX6_order 44 = .ok (.iadd, 1) := by decide +kernel
theorem dX6_order_45 : decode cX6_order 45 = .ok (.bipush 10, 2) := by decide +kernel
theorem dX6_order_47 : decode cX6_order 47 = .ok (.if_icmp .le 7, 3) := by decide +kernel
theorem dX6_order_50 : decode cX6_order 50 = .ok (.sipush (-1004), 3) := by decide +kernel
theorem dX6_order_53 : decode cX6_order 53 = .ok (.ireturn, 1) := by decide +kernel
theorem dX6_order_54 : decode cX6_order 54 = .ok (.aload_n 0, 1) := by decide +kernel
theorem dX6_order_55 : decode cX6_order 55 = .ok (.getfield 29, 3) := by decide +kernel
theorem dX6_order_58 : decode cX6_order 58 = .ok (.aload_n 0, 1) := by decide +kernel
theorem dX6_order_59 : decode cX6_order 59 = .ok (.getfield 19, 3) := by decide +kernel
theorem dX6_order_62 : decode cX6_order 62 = .ok (.invokevirtual 58, 3) := by decide +kernel
theorem dX6_order_65 : decode cX6_order 65 = .ok (.aload_n 0, 1) := by decide +kernel
theorem dX6_order_66 : decode cX6_order 66 = .ok (.getfield 10, 3) := by decide +kernel
theorem dX6_order_69 : decode cX6_order 69 = .ok (.getfield 121, 3) := by decide +kernel
theorem dX6_order_72 : decode cX6_order 72 = .ok (.aload_n 0, 1) := by decide +kernel
theorem dX6_order_73 : decode cX6_order 73 = .ok (.getfield 19, 3) := by decide +kernel
theorem dX6_order_76 : decode cX6_order 76 = .ok (.getfield 112, 3) := by decide +kernel
theorem dX6_order_79 : decode cX6_order 79 = .ok (.invokestatic 122, 3) := by decide +kernel
theorem dX6_order_82 : decode cX6_order 82 = .ok (.aload_n 0, 1) := by decide +kernel
theorem dX6_order_83 : decode cX6_order 83 = .ok (.getfield 10, 3) := by decide +kernel
theorem dX6_order_86 : decode cX6_order 86 = .ok (.getfield 121, 3) := by decide +kernel
theorem dX6_order_89 : decode cX6_order 89 = .ok (.invokevirtual 116, 3) := by decide +kernel
theorem dX6_order_92 : decode cX6_order 92 = .ok (.ireturn, 1) := by decide +kernel
theorem dX6_cancel_0 : decode cX6_cancel 0 = .ok (.iload_n 1, 1) := by decide +kernel
theorem dX6_cancel_1 : decode cX6_cancel 1 = .ok (.ifCond .lt 17, 3) := by decide +kernel
theorem dX6_cancel_4 : decode cX6_cancel 4 = .ok (.iload_n 1, 1) := by decide +kernel
theorem dX6_cancel_5 : decode cX6_cancel 5 = .ok (.aload_n 0, 1) := by decide +kernel
theorem dX6_cancel_6 : decode cX6_cancel 6 = .ok (.getfield 19, 3) := by decide +kernel
theorem dX6_cancel_9 : decode cX6_cancel 9 = .ok (.getfield 112, 3) := by decide +kernel
theorem dX6_cancel_12 : decode cX6_cancel 12 = .ok (.invokevirtual 116, 3) := by decide +kernel
theorem dX6_cancel_15 : decode cX6_cancel 15 = .ok (.if_icmp .lt 7, 3) := by decide +kernel
theorem dX6_cancel_18 : decode cX6_cancel 18 = .ok (.sipush (-1002), 3) := by decide +kernel
theorem dX6_cancel_21 : decode cX6_cancel 21 = .ok (.ireturn, 1) := by decide +kernel
theorem dX6_cancel_22 : decode cX6_cancel 22 = .ok (.aload_n 0, 1) := by decide +kernel
theorem dX6_cancel_23 : decode cX6_cancel 23 = .ok (.getfield 29, 3) := by decide +kernel
theorem dX6_cancel_26 : decode cX6_cancel 26 = .ok (.aload_n 0, 1) := by decide +kernel
theorem dX6_cancel_27 : decode cX6_cancel 27 = .ok (.getfield 19, 3) := by decide +kernel
theorem dX6_cancel_30 : decode cX6_cancel 30 = .ok (.invokevirtual 58, 3) := by decide +kernel
theorem dX6_cancel_33 : decode cX6_cancel 33 = .ok (.aload_n 0, 1) := by decide +kernel
theorem dX6_cancel_34 : decode cX6_cancel 34 = .ok (.getfield 19, 3) := by decide +kernel
theorem dX6_cancel_37 : decode cX6_cancel 37 = .ok (.getfield 112, 3) := by decide +kernel
theorem dX6_cancel_40 : decode cX6_cancel 40 = .ok (.iload_n 1, 1) := by decide +kernel
theorem dX6_cancel_41 : decode cX6_cancel 41 = .ok (.invokevirtual 126, 3) := by decide +kernel
theorem dX6_cancel_44 : decode cX6_cancel 44 = .ok (.pop, 1) := by decide +kernel
theorem dX6_cancel_45 : decode cX6_cancel 45 = .ok (.aload_n 0, 1) := by decide +kernel
theorem dX6_cancel_46 : decode cX6_cancel 46 = .ok (.getfield 19, 3) := by decide +kernel
theorem dX6_cancel_49 : decode cX6_cancel 49 = .ok (.getfield 112, 3) := by decide +kernel
theorem dX6_cancel_52 : decode cX6_cancel 52 = .ok (.invokevirtual 116, 3) := by decide +kernel
theorem dX6_cancel_55 : decode cX6_cancel 55 = .ok (.ireturn, 1) := by decide +kernel
theorem dX6_pass_0 : decode cX6_pass 0 = .ok (.iload_n 1, 1) := by decide +kernel
theorem dX6_pass_1 : decode cX6_pass 1 = .ok (.iconst 1, 1) := by decide +kernel
theorem dX6_pass_2 : decode cX6_pass 2 = .ok (.sipush 200, 3) := by decide +kernel
theorem dX6_pass_5 : decode cX6_pass 5 = .ok (.invokestatic 33, 3) := by decide +kernel
theorem dX6_pass_8 : decode cX6_pass 8 = .ok (.ifCond .ne 7, 3) := by decide +kernel
theorem dX6_pass_11 : decode cX6_pass 11 = .ok (.sipush (-1002), 3) := by decide +kernel
theorem dX6_pass_14 : decode cX6_pass 14 = .ok (.ireturn, 1) := by decide +kernel
theorem dX6_pass_15 : decode cX6_pass 15 = .ok (.aload_n 0, 1) := by decide +kernel
theorem dX6_pass_16 : decode cX6_pass 16 = .ok (.getfield 19, 3) := by decide +kernel
theorem dX6_pass_19 : decode cX6_pass 19 = .ok (.getfield 130, 3) := by decide +kernel
theorem dX6_pass_22 : decode cX6_pass 22 = .ok (.iload_n 1, 1) := by decide +kernel
theorem dX6_pass_23 : decode cX6_pass 23 = .ok (.iadd, 1) := by decide +kernel
theorem dX6_pass_24 : decode cX6_pass 24 = .ok (.sipush 9999, 3) := by decide +kernel
theorem dX6_pass_27 : decode cX6_pass 27 = .ok (.if_icmp .le 7, 3) := by decide +kernel
theorem dX6_pass_30 : decode cX6_pass 30 = .ok (.sipush (-1004), 3) := by decide +kernel
theorem dX6_pass_33 : decode cX6_pass 33 = .ok (.ireturn, 1) := by decide +kernel
theorem dX6_pass_34 : decode cX6_pass 34 = .ok (.aload_n 0, 1) := by decide +kernel
theorem dX6_pass_35 : decode cX6_pass 35 = .ok (.getfield 29, 3) := by decide +kernel
theorem dX6_pass_38 : decode cX6_pass 38 = .ok (.aload_n 0, 1) := by decide +kernel
theorem dX6_pass_39 : decode cX6_pass 39 = .ok (.getfield 19, 3) := by decide +kernel
theorem dX6_pass_42 : decode cX6_pass 42 = .ok (.invokevirtual 58, 3) := by decide +kernel
theorem dX6_pass_45 : decode cX6_pass 45 = .ok (.iconst 0, 1) := by decide +kernel
theorem dX6_pass_46 : decode cX6_pass 46 = .ok (.istore_n 2, 1) := by decide +kernel
theorem dX6_pass_47 : decode cX6_pass 47 = .ok (.iload_n 2, 1) := by decide +kernel
theorem dX6_pass_48 : decode cX6_pass 48 = .ok (.iload_n 1, 1) := by decide +kernel
theorem dX6_pass_49 : decode cX6_pass 49 = .ok (.if_icmp .ge 16, 3) := by decide +kernel
theorem dX6_pass_52 : decode cX6_pass 52 = .ok (.aload_n 0, 1) := by decide +kernel
theorem dX6_pass_53 : decode cX6_pass 53 = .ok (.getfield 19, 3) := by decide +kernel
theorem dX6_pass_56 : decode cX6_pass 56 = .ok (.invokevirtual 133, 3) := by decide +kernel
theorem dX6_pass_59 : decode cX6_pass 59 = .ok (.iinc 2 1, 3) := by decide +kernel
theorem dX6_pass_62 : decode cX6_pass 62 = .ok (.goto (-15), 3) := by decide +kernel
theorem dX6_pass_65 : decode cX6_pass 65 = .ok (.aload_n 0, 1) := by decide +kernel
theorem dX6_pass_66 : decode cX6_pass 66 = .ok (.getfield 19, 3) := by decide +kernel
theorem dX6_pass_69 : decode cX6_pass 69 = .ok (.getfield 65, 3) := by decide +kernel
theorem dX6_pass_72 : decode cX6_pass 72 = .ok (.getfield 136, 3) := by decide +kernel
theorem dX6_pass_75 : decode cX6_pass 75 = .ok (.ireturn, 1) := by decide +kernel
theorem dX6_scrape_0 : decode cX6_scrape 0 = .ok (.iload_n 1, 1) := by decide +kernel
theorem dX6_scrape_1 : decode cX6_scrape 1 = .ok (.iload_n 2, 1) := by decide +kernel
theorem dX6_scrape_2 : decode cX6_scrape 2 = .ok (.invokestatic 139, 3) := by decide +kernel
theorem dX6_scrape_5 : decode cX6_scrape 5 = .ok (.ifCond .eq 13, 3) := by decide +kernel
theorem dX6_scrape_8 : decode cX6_scrape 8 = .ok (.iload_n 3, 1) := by decide +kernel
theorem dX6_scrape_9 : decode cX6_scrape 9 = .ok (.iconst 1, 1) := by decide +kernel
theorem dX6_scrape_10 : decode cX6_scrape 10 = .ok (.bipush 60, 2) := by decide +kernel
theorem dX6_scrape_12 : decode cX6_scrape 12 = .ok (.invokestatic 33, 3) := by decide +kernel
theorem dX6_scrape_15 : decode cX6_scrape 15 = .ok (.ifCond .ne 7, 3) := by decide +kernel
theorem dX6_scrape_18 : decode cX6_scrape 18 = .ok (.sipush (-1002), 3) := by decide +kernel
theorem dX6_scrape_21 : decode cX6_scrape 21 = .ok (.ireturn, 1) := by decide +kernel
theorem dX6_scrape_22 : decode cX6_scrape 22 = .ok (.aload_n 0, 1) := by decide +kernel
theorem dX6_scrape_23 : decode cX6_scrape 23 = .ok (.getfield 29, 3) := by decide +kernel
theorem dX6_scrape_26 : decode cX6_scrape 26 = .ok (.aload_n 0, 1) := by decide +kernel
theorem dX6_scrape_27 : decode cX6_scrape 27 = .ok (.getfield 19, 3) := by decide +kernel
theorem dX6_scrape_30 : decode cX6_scrape 30 = .ok (.invokevirtual 58, 3) := by decide +kernel
theorem dX6_scrape_33 : decode cX6_scrape 33 = .ok (.iload_n 3, 1) := by decide +kernel
theorem dX6_scrape_34 : decode cX6_scrape 34 = .ok (.aload_n 0, 1) := by decide +kernel
theorem dX6_scrape_35 : decode cX6_scrape 35 = .ok (.getfield 19, 3) := by decide +kernel
theorem dX6_scrape_38 : decode cX6_scrape 38 = .ok (.getfield 144, 3) := by decide +kernel
theorem dX6_scrape_41 : decode cX6_scrape 41 = .ok (.iload_n 1, 1) := by decide +kernel
theorem dX6_scrape_42 : decode cX6_scrape 42 = .ok (.iload_n 2, 1) := by decide +kernel
theorem dX6_scrape_43 : decode cX6_scrape 43 = .ok (.invokevirtual 148, 3) := by decide +kernel
theorem dX6_scrape_46 : decode cX6_scrape 46 = .ok (.invokestatic 151, 3) := by decide +kernel
theorem dX6_scrape_49 : decode cX6_scrape 49 = .ok (.istore 4, 2) := by decide +kernel
theorem dX6_scrape_51 : decode cX6_scrape 51 = .ok (.aload_n 0, 1) := by decide +kernel
theorem dX6_scrape_52 : decode cX6_scrape 52 = .ok (.getfield 19, 3) := by decide +kernel
theorem dX6_scrape_55 : decode cX6_scrape 55 = .ok (.getfield 144, 3) := by decide +kernel
theorem dX6_scrape_58 : decode cX6_scrape 58 = .ok (.iload_n 1, 1) := by decide +kernel
theorem dX6_scrape_59 : decode cX6_scrape 59 = .ok (.iload_n 2, 1) := by decide +kernel
theorem dX6_scrape_60 : decode cX6_scrape 60 = .ok (.iload 4, 2) := by decide +kernel
theorem dX6_scrape_62 : decode cX6_scrape 62 = .ok (.ineg, 1) := by decide +kernel
theorem dX6_scrape_63 : decode cX6_scrape 63 = .ok (.invokevirtual 156, 3) := by decide +kernel
theorem dX6_scrape_66 : decode cX6_scrape 66 = .ok (.aload_n 0, 1) := by decide +kernel
theorem dX6_scrape_67 : decode cX6_scrape 67 = .ok (.getfield 19, 3) := by decide +kernel
theorem dX6_scrape_70 : decode cX6_scrape 70 = .ok (.dup, 1) := by decide +kernel
theorem dX6_scrape_71 : decode cX6_scrape 71 = .ok (.getfield 79, 3) := by decide +kernel
theorem dX6_scrape_74 : decode cX6_scrape 74 = .ok (.iload 4, 2) := by decide +kernel
theorem dX6_scrape_76 : decode cX6_scrape 76 = .ok (.iadd, 1) := by decide +kernel
theorem dX6_scrape_77 : decode cX6_scrape 77 = .ok (.putfield 79, 3) := by decide +kernel
theorem dX6_scrape_80 : decode cX6_scrape 80 = .ok (.iload 4, 2) := by decide +kernel
theorem dX6_scrape_82 : decode cX6_scrape 82 = .ok (.ireturn, 1) := by decide +kernel
theorem dX6_undo_0 : decode cX6_undo 0 = .ok (.aload_n 0, 1) := by decide +kernel
theorem dX6_undo_1 : decode cX6_undo 1 = .ok (.getfield 29, 3) := by decide +kernel
theorem dX6_undo_4 : decode cX6_undo 4 = .ok (.getfield 159, 3) := by decide +kernel
theorem dX6_undo_7 : decode cX6_undo 7 = .ok (.ifCond .ne 7, 3) := by decide +kernel
theorem dX6_undo_10 : decode cX6_undo 10 = .ok (.sipush (-1003), 3) := by decide +kernel
theorem dX6_undo_13 : decode cX6_undo 13 = .ok (.ireturn, 1) := by decide +kernel
theorem dX6_undo_14 : decode cX6_undo 14 = .ok (.aload_n 0, 1) := by decide +kernel
theorem dX6_undo_15 : decode cX6_undo 15 = .ok (.getfield 29, 3) := by decide +kernel
theorem dX6_undo_18 : decode cX6_undo 18 = .ok (.aload_n 0, 1) := by decide +kernel
theorem dX6_undo_19 : decode cX6_undo 19 = .ok (.getfield 19, 3) := by decide +kernel
theorem dX6_undo_22 : decode cX6_undo 22 = .ok (.invokevirtual 161, 3) := by decide +kernel
theorem dX6_undo_25 : decode cX6_undo 25 = .ok (.aload_n 0, 1) := by decide +kernel
theorem dX6_undo_26 : decode cX6_undo 26 = .ok (.getfield 29, 3) := by decide +kernel
theorem dX6_undo_29 : decode cX6_undo 29 = .ok (.getfield 159, 3) := by decide +kernel
theorem dX6_undo_32 : decode cX6_undo 32 = .ok (.ireturn, 1) := by decide +kernel
theorem dX6_wagon_0 : decode cX6_wagon 0 = .ok (.aload_n 0, 1) := by decide +kernel
theorem dX6_wagon_1 : decode cX6_wagon 1 = .ok (.getfield 19, 3) := by decide +kernel
theorem dX6_wagon_4 : decode cX6_wagon 4 = .ok (.getfield 65, 3) := by decide +kernel
theorem dX6_wagon_7 : decode cX6_wagon 7 = .ok (.iload_n 1, 1) := by decide +kernel
theorem dX6_wagon_8 : decode cX6_wagon 8 = .ok (.invokevirtual 82, 3) := by decide +kernel
theorem dX6_wagon_11 : decode cX6_wagon 11 = .ok (.ifCond .ne 7, 3) := by decide +kernel
theorem dX6_wagon_14 : decode cX6_wagon 14 = .ok (.sipush (-1002), 3) := by decide +kernel
theorem dX6_wagon_17 : decode cX6_wagon 17 = .ok (.ireturn, 1) := by decide +kernel
theorem dX6_wagon_18 : decode cX6_wagon 18 = .ok (.iload_n 2, 1) := by decide +kernel
theorem dX6_wagon_19 : decode cX6_wagon 19 = .ok (.tableswitch 95 0 4 #[33, 46, 58, 70, 82], 33) := by decide +kernel
theorem dX6_wagon_52 : decode cX6_wagon 52 = .ok (.aload_n 0, 1) := by decide +kernel
theorem dX6_wagon_53 : decode cX6_wagon 53 = .ok (.getfield 19, 3) := by decide +kernel
theorem dX6_wagon_56 : decode cX6_wagon 56 = .ok (.getfield 65, 3) := by decide +kernel
theorem dX6_wagon_59 : decode cX6_wagon 59 = .ok (.getfield 88, 3) := by decide +kernel
theorem dX6_wagon_62 : decode cX6_wagon 62 = .ok (.iload_n 1, 1) := by decide +kernel
theorem dX6_wagon_63 : decode cX6_wagon 63 = .ok (.iaload, 1) := by decide +kernel
theorem dX6_wagon_64 : decode cX6_wagon 64 = .ok (.ireturn, 1) := by decide +kernel
theorem dX6_wagon_65 : decode cX6_wagon 65 = .ok (.aload_n 0, 1) := by decide +kernel
theorem dX6_wagon_66 : decode cX6_wagon 66 = .ok (.getfield 19, 3) := by decide +kernel
theorem dX6_wagon_69 : decode cX6_wagon 69 = .ok (.getfield 65, 3) := by decide +kernel
theorem dX6_wagon_72 : decode cX6_wagon 72 = .ok (.iload_n 1, 1) := by decide +kernel
theorem dX6_wagon_73 : decode cX6_wagon 73 = .ok (.invokevirtual 164, 3) := by decide +kernel
theorem dX6_wagon_76 : decode cX6_wagon 76 = .ok (.ireturn, 1) := by decide +kernel
theorem dX6_wagon_77 : decode cX6_wagon 77 = .ok (.aload_n 0, 1) := by decide +kernel
theorem dX6_wagon_78 : decode cX6_wagon 78 = .ok (.getfield 19, 3) := by decide +kernel
theorem dX6_wagon_81 : decode cX6_wagon 81 = .ok (.getfield 65, 3) := by decide +kernel
theorem dX6_wagon_84 : decode cX6_wagon 84 = .ok (.iload_n 1, 1) := by decide +kernel
theorem dX6_wagon_85 : decode cX6_wagon 85 = .ok (.invokevirtual 168, 3) := by decide +kernel
theorem dX6_wagon_88 : decode cX6_wagon 88 = .ok (.ireturn, 1) := by decide +kernel
theorem dX6_wagon_89 : decode cX6_wagon 89 = .ok (.aload_n 0, 1) := by decide +kernel
theorem dX6_wagon_90 : decode cX6_wagon 90 = .ok (.getfield 19, 3) := by decide +kernel
theorem dX6_wagon_93 : decode cX6_wagon 93 = .ok (.getfield 65, 3) := by decide +kernel
theorem dX6_wagon_96 : decode cX6_wagon 96 = .ok (.iload_n 1, 1) := by decide +kernel
theorem dX6_wagon_97 : decode cX6_wagon 97 = .ok (.invokevirtual 171, 3) := by decide +kernel
theorem dX6_wagon_100 : decode cX6_wagon 100 = .ok (.ireturn, 1) := by decide +kernel
theorem dX6_wagon_101 : decode cX6_wagon 101 = .ok (.aload_n 0, 1) := by decide +kernel
theorem dX6_wagon_102 : decode cX6_wagon 102 = .ok (.getfield 19, 3) := by decide +kernel
theorem dX6_wagon_105 : decode cX6_wagon 105 = .ok (.getfield 65, 3) := by decide +kernel
theorem dX6_wagon_108 : decode cX6_wagon 108 = .ok (.getfield 174, 3) := by decide +kernel
theorem dX6_wagon_111 : decode cX6_wagon 111 = .ok (.iload_n 1, 1) := by decide +kernel
theorem dX6_wagon_112 : decode cX6_wagon 112 = .ok (.iaload, 1) := by decide +kernel
theorem dX6_wagon_113 : decode cX6_wagon 113 = .ok (.ireturn, 1) := by decide +kernel
theorem dX6_wagon_114 : decode cX6_wagon 114 = .ok (.sipush (-1002), 3) := by decide +kernel
theorem dX6_wagon_117 : decode cX6_wagon 117 = .ok (.ireturn, 1) := by decide +kernel
theorem dX6_doorOf_0 : decode cX6_doorOf 0 = .ok (.aload_n 0, 1) := by decide +kernel
theorem dX6_doorOf_1 : decode cX6_doorOf 1 = .ok (.getfield 19, 3) := by decide +kernel
theorem dX6_doorOf_4 : decode cX6_doorOf 4 = .ok (.getfield 65, 3) := by decide +kernel
theorem dX6_doorOf_7 : decode cX6_doorOf 7 = .ok (.iload_n 1, 1) := by decide +kernel
theorem dX6_doorOf_8 : decode cX6_doorOf 8 = .ok (.iload_n 2, 1) := by decide +kernel
theorem dX6_doorOf_9 : decode cX6_doorOf 9 = .ok (.invokevirtual 94, 3) := by decide +kernel
theorem dX6_doorOf_12 : decode cX6_doorOf 12 = .ok (.ifCond .ne 7, 3) := by decide +kernel
theorem dX6_doorOf_15 : decode cX6_doorOf 15 = .ok (.sipush (-1002), 3) := by decide +kernel
theorem dX6_doorOf_18 : decode cX6_doorOf 18 = .ok (.ireturn, 1) := by decide +kernel
theorem dX6_doorOf_19 : decode cX6_doorOf 19 = .ok (.iload_n 3, 1) := by decide +kernel
theorem dX6_doorOf_20 : decode cX6_doorOf 20 = .ok (.lookupswitch 54 #[(0, 28), (1, 41)], 28) := by decide +kernel
theorem dX6_doorOf_48 : decode cX6_doorOf 48 = .ok (.aload_n 0, 1) := by decide +kernel
theorem dX6_doorOf_49 : decode cX6_doorOf 49 = .ok (.getfield 19, 3) := by decide +kernel
theorem dX6_doorOf_52 : decode cX6_doorOf 52 = .ok (.getfield 65, 3) := by decide +kernel
theorem dX6_doorOf_55 : decode cX6_doorOf 55 = .ok (.iload_n 1, 1) := by decide +kernel
theorem dX6_doorOf_56 : decode cX6_doorOf 56 = .ok (.iload_n 2, 1) := by decide +kernel
theorem dX6_doorOf_57 : decode cX6_doorOf 57 = .ok (.invokevirtual 98, 3) := by decide +kernel
theorem dX6_doorOf_60 : decode cX6_doorOf 60 = .ok (.ireturn, 1) := by decide +kernel
theorem dX6_doorOf_61 : decode cX6_doorOf 61 = .ok (.aload_n 0, 1) := by decide +kernel
theorem dX6_doorOf_62 : decode cX6_doorOf 62 = .ok (.getfield 19, 3) := by decide +kernel
theorem dX6_doorOf_65 : decode cX6_doorOf 65 = .ok (.getfield 65, 3) := by decide +kernel
theorem dX6_doorOf_68 : decode cX6_doorOf 68 = .ok (.iload_n 1, 1) := by decide +kernel
theorem dX6_doorOf_69 : decode cX6_doorOf 69 = .ok (.iload_n 2, 1) := by decide +kernel
theorem dX6_doorOf_70 : decode cX6_doorOf 70 = .ok (.invokevirtual 177, 3) := by decide +kernel
theorem dX6_doorOf_73 : decode cX6_doorOf 73 = .ok (.ireturn, 1) := by decide +kernel
theorem dX6_doorOf_74 : decode cX6_doorOf 74 = .ok (.sipush (-1002), 3) := by decide +kernel
theorem dX6_doorOf_77 : decode cX6_doorOf 77 = .ok (.ireturn, 1) := by decide +kernel
theorem dX6_height_0 : decode cX6_height 0 = .ok (.iload_n 1, 1) := by decide +kernel
theorem dX6_height_1 : decode cX6_height 1 = .ok (.iload_n 2, 1) := by decide +kernel
theorem dX6_height_2 : decode cX6_height 2 = .ok (.invokestatic 139, 3) := by decide +kernel
theorem dX6_height_5 : decode cX6_height 5 = .ok (.ifCond .eq 18, 3) := by decide +kernel
theorem dX6_height_8 : decode cX6_height 8 = .ok (.aload_n 0, 1) := by decide +kernel
theorem dX6_height_9 : decode cX6_height 9 = .ok (.getfield 19, 3) := by decide +kernel
theorem dX6_height_12 : decode cX6_height 12 = .ok (.getfield 144, 3) := by decide +kernel
theorem dX6_height_15 : decode cX6_height 15 = .ok (.iload_n 1, 1) := by decide +kernel
theorem dX6_height_16 : decode cX6_height 16 = .ok (.iload_n 2, 1) := by decide +kernel
theorem dX6_height_17 : decode cX6_height 17 = .ok (.invokevirtual 148, 3) := by decide +kernel
theorem dX6_height_20 : decode cX6_height 20 = .ok (.goto 6, 3) := by decide +kernel
theorem dX6_height_23 : decode cX6_height 23 = .ok (.sipush (-1002), 3) := by decide +kernel
theorem dX6_height_26 : decode cX6_height 26 = .ok (.ireturn, 1) := by decide +kernel
theorem dX6_profile_0 : decode cX6_profile 0 = .ok (.iload_n 1, 1) := by decide +kernel
theorem dX6_profile_1 : decode cX6_profile 1 = .ok (.iconst 0, 1) := by decide +kernel
theorem dX6_profile_2 : decode cX6_profile 2 = .ok (.iconst 2, 1) := by decide +kernel
theorem dX6_profile_3 : decode cX6_profile 3 = .ok (.invokestatic 33, 3) := by decide +kernel
theorem dX6_profile_6 : decode cX6_profile 6 = .ok (.ifCond .ne 7, 3) := by decide +kernel
theorem dX6_profile_9 : decode cX6_profile 9 = .ok (.sipush (-1002), 3) := by decide +kernel
theorem dX6_profile_12 : decode cX6_profile 12 = .ok (.ireturn, 1) := by decide +kernel
theorem dX6_profile_13 : decode cX6_profile 13 = .ok (.iload_n 2, 1) := by decide +kernel
theorem dX6_profile_14 : decode cX6_profile 14 = .ok (.tableswitch 128 0 5 #[38, 50, 62, 74, 95, 116], 38) := by decide +kernel
theorem dX6_profile_52 : decode cX6_profile 52 = .ok (.aload_n 0, 1) := by decide +kernel
theorem dX6_profile_53 : decode cX6_profile 53 = .ok (.getfield 19, 3) := by decide +kernel
theorem dX6_profile_56 : decode cX6_profile 56 = .ok (.getfield 144, 3) := by decide +kernel
theorem dX6_profile_59 : decode cX6_profile 59 = .ok (.iload_n 1, 1) := by decide +kernel
theorem dX6_profile_60 : decode cX6_profile 60 = .ok (.invokevirtual 180, 3) := by decide +kernel
theorem dX6_profile_63 : decode cX6_profile 63 = .ok (.ireturn, 1) := by decide +kernel
theorem dX6_profile_64 : decode cX6_profile 64 = .ok (.aload_n 0, 1) := by decide +kernel
theorem dX6_profile_65 : decode cX6_profile 65 = .ok (.getfield 19, 3) := by decide +kernel
theorem dX6_profile_68 : decode cX6_profile 68 = .ok (.getfield 144, 3) := by decide +kernel
theorem dX6_profile_71 : decode cX6_profile 71 = .ok (.iload_n 1, 1) := by decide +kernel
theorem dX6_profile_72 : decode cX6_profile 72 = .ok (.invokevirtual 183, 3) := by decide +kernel
theorem dX6_profile_75 : decode cX6_profile 75 = .ok (.ireturn, 1) := by decide +kernel
theorem dX6_profile_76 : decode cX6_profile 76 = .ok (.aload_n 0, 1) := by decide +kernel
theorem dX6_profile_77 : decode cX6_profile 77 = .ok (.getfield 19, 3) := by decide +kernel
theorem dX6_profile_80 : decode cX6_profile 80 = .ok (.getfield 144, 3) := by decide +kernel
theorem dX6_profile_83 : decode cX6_profile 83 = .ok (.iload_n 1, 1) := by decide +kernel
theorem dX6_profile_84 : decode cX6_profile 84 = .ok (.invokevirtual 186, 3) := by decide +kernel
theorem dX6_profile_87 : decode cX6_profile 87 = .ok (.ireturn, 1) := by decide +kernel
theorem dX6_profile_88 : decode cX6_profile 88 = .ok (.aload_n 0, 1) := by decide +kernel
theorem dX6_profile_89 : decode cX6_profile 89 = .ok (.getfield 19, 3) := by decide +kernel
theorem dX6_profile_92 : decode cX6_profile 92 = .ok (.getfield 144, 3) := by decide +kernel
theorem dX6_profile_95 : decode cX6_profile 95 = .ok (.aload_n 0, 1) := by decide +kernel
theorem dX6_profile_96 : decode cX6_profile 96 = .ok (.getfield 19, 3) := by decide +kernel
theorem dX6_profile_99 : decode cX6_profile 99 = .ok (.getfield 62, 3) := by decide +kernel
theorem dX6_profile_102 : decode cX6_profile 102 = .ok (.iconst 4, 1) := by decide +kernel
theorem dX6_profile_103 : decode cX6_profile 103 = .ok (.iaload, 1) := by decide +kernel
theorem dX6_profile_104 : decode cX6_profile 104 = .ok (.iload_n 1, 1) := by decide +kernel
theorem dX6_profile_105 : decode cX6_profile 105 = .ok (.invokevirtual 189, 3) := by decide +kernel
theorem dX6_profile_108 : decode cX6_profile 108 = .ok (.ireturn, 1) := by decide +kernel
theorem dX6_profile_109 : decode cX6_profile 109 = .ok (.aload_n 0, 1) := by decide +kernel
theorem dX6_profile_110 : decode cX6_profile 110 = .ok (.getfield 19, 3) := by decide +kernel
theorem dX6_profile_113 : decode cX6_profile 113 = .ok (.getfield 144, 3) := by decide +kernel
theorem dX6_profile_116 : decode cX6_profile 116 = .ok (.aload_n 0, 1) := by decide +kernel
theorem dX6_profile_117 : decode cX6_profile 117 = .ok (.getfield 19, 3) := by decide +kernel
theorem dX6_profile_120 : decode cX6_profile 120 = .ok (.getfield 62, 3) := by decide +kernel
theorem dX6_profile_123 : decode cX6_profile 123 = .ok (.iconst 4, 1) := by decide +kernel
theorem dX6_profile_124 : decode cX6_profile 124 = .ok (.iaload, 1) := by decide +kernel
theorem dX6_profile_125 : decode cX6_profile 125 = .ok (.iload_n 1, 1) := by decide +kernel
theorem dX6_profile_126 : decode cX6_profile 126 = .ok (.invokevirtual 192, 3) := by decide +kernel
theorem dX6_profile_129 : decode cX6_profile 129 = .ok (.ireturn, 1) := by decide +kernel
theorem dX6_profile_130 : decode cX6_profile 130 = .ok (.aload_n 0, 1) := by decide +kernel
theorem dX6_profile_131 : decode cX6_profile 131 = .ok (.getfield 19, 3) := by decide +kernel
theorem dX6_profile_134 : decode cX6_profile 134 = .ok (.getfield 144, 3) := by decide +kernel
theorem dX6_profile_137 : decode cX6_profile 137 = .ok (.iload_n 1, 1) := by decide +kernel
theorem dX6_profile_138 : decode cX6_profile 138 = .ok (.invokevirtual 195, 3) := by decide +kernel
theorem dX6_profile_141 : decode cX6_profile 141 = .ok (.ireturn, 1) := by decide +kernel
theorem dX6_profile_142 : decode cX6_profile 142 = .ok (.sipush (-1002), 3) := by decide +kernel
theorem dX6_profile_145 : decode cX6_profile 145 = .ok (.ireturn, 1) := by decide +kernel
theorem dX6_lacking_0 : decode cX6_lacking 0 = .ok (.iload_n 1, 1) := by decide +kernel
theorem dX6_lacking_1 : decode cX6_lacking 1 = .ok (.iconst (-1), 1) := by decide +kernel
theorem dX6_lacking_2 : decode cX6_lacking 2 = .ok (.if_icmp .ge 7, 3) := by decide +kernel
theorem dX6_lacking_5 : decode cX6_lacking 5 = .ok (.sipush (-1002), 3) := by decide +kernel
theorem dX6_lacking_8 : decode cX6_lacking 8 = .ok (.ireturn, 1) := by decide +kernel
theorem dX6_lacking_9 : decode cX6_lacking 9 = .ok (.aload_n 0, 1) := by decide +kernel
theorem dX6_lacking_10 : decode cX6_lacking 10 = .ok (.getfield 19, 3) := by decide +kernel
theorem dX6_lacking_13 : decode cX6_lacking 13 = .ok (.getfield 62, 3) := by decide +kernel
theorem dX6_lacking_16 : decode cX6_lacking 16 = .ok (.iconst 4, 1) := by decide +kernel
theorem dX6_lacking_17 : decode cX6_lacking 17 = .ok (.iaload, 1) := by decide +kernel
theorem dX6_lacking_18 : decode cX6_lacking 18 = .ok (.istore_n 2, 1) := by decide +kernel
theorem dX6_lacking_19 : decode cX6_lacking 19 = .ok (.iload_n 1, 1) := by decide +kernel
theorem dX6_lacking_20 : decode cX6_lacking 20 = .ok (.iconst (-1), 1) := by decide +kernel
theorem dX6_lacking_21 : decode cX6_lacking 21 = .ok (.if_icmp .ne 17, 3) := by decide +kernel
theorem dX6_lacking_24 : decode cX6_lacking 24 = .ok (.aload_n 0, 1) := by decide +kernel
theorem dX6_lacking_25 : decode cX6_lacking 25 = .ok (.getfield 19, 3) := by decide +kernel
theorem dX6_lacking_28 : decode cX6_lacking 28 = .ok (.getfield 144, 3) := by decide +kernel
theorem dX6_lacking_31 : decode cX6_lacking 31 = .ok (.iload_n 2, 1) := by decide +kernel
theorem dX6_lacking_32 : decode cX6_lacking 32 = .ok (.invokevirtual 198, 3) := by decide +kernel
theorem dX6_lacking_35 : decode cX6_lacking 35 = .ok (.goto 15, 3) := by decide +kernel
theorem dX6_lacking_38 : decode cX6_lacking 38 = .ok (.aload_n 0, 1) := by decide +kernel
theorem dX6_lacking_39 : decode cX6_lacking 39 = .ok (.getfield 19, 3) := by decide +kernel
theorem dX6_lacking_42 : decode cX6_lacking 42 = .ok (.getfield 144, 3) := by decide +kernel
theorem dX6_lacking_45 : decode cX6_lacking 45 = .ok (.iload_n 2, 1) := by decide +kernel
theorem dX6_lacking_46 : decode cX6_lacking 46 = .ok (.iload_n 1, 1) := by decide +kernel
theorem dX6_lacking_47 : decode cX6_lacking 47 = .ok (.invokevirtual 201, 3) := by decide +kernel
theorem dX6_lacking_50 : decode cX6_lacking 50 = .ok (.ireturn, 1) := by decide +kernel
theorem dX6_ordered_0 : decode cX6_ordered 0 = .ok (.iload_n 1, 1) := by decide +kernel
theorem dX6_ordered_1 : decode cX6_ordered 1 = .ok (.ifCond .lt 12, 3) := by decide +kernel
theorem dX6_ordered_4 : decode cX6_ordered 4 = .ok (.iload_n 2, 1) := by decide +kernel
theorem dX6_ordered_5 : decode cX6_ordered 5 = .ok (.iconst 0, 1) := by decide +kernel
theorem dX6_ordered_6 : decode cX6_ordered 6 = .ok (.iconst 4, 1) := by decide +kernel
theorem dX6_ordered_7 : decode cX6_ordered 7 = .ok (.invokestatic 33, 3) := by decide +kernel
theorem dX6_ordered_10 : decode cX6_ordered 10 = .ok (.ifCond .ne 7, 3) := by decide +kernel
theorem dX6_ordered_13 : decode cX6_ordered 13 = .ok (.sipush (-1002), 3) := by decide +kernel
theorem dX6_ordered_16 : decode cX6_ordered 16 = .ok (.ireturn, 1) := by decide +kernel
theorem dX6_ordered_17 : decode cX6_ordered 17 = .ok (.iload_n 1, 1) := by decide +kernel
theorem dX6_ordered_18 : decode cX6_ordered 18 = .ok (.aload_n 0, 1) := by decide +kernel
theorem dX6_ordered_19 : decode cX6_ordered 19 = .ok (.getfield 19, 3) := by decide +kernel
theorem dX6_ordered_22 : decode cX6_ordered 22 = .ok (.getfield 112, 3) := by decide +kernel
theorem dX6_ordered_25 : decode cX6_ordered 25 = .ok (.invokevirtual 116, 3) := by decide +kernel
theorem dX6_ordered_28 : decode cX6_ordered 28 = .ok (.if_icmp .ge 24, 3) := by decide +kernel
theorem dX6_ordered_31 : decode cX6_ordered 31 = .ok (.aload_n 0, 1) := by decide +kernel
theorem dX6_ordered_32 : decode cX6_ordered 32 = .ok (.getfield 19, 3) := by decide +kernel
theorem dX6_ordered_35 : decode cX6_ordered 35 = .ok (.getfield 112, 3) := by decide +kernel
theorem dX6_ordered_38 : decode cX6_ordered 38 = .ok (.iload_n 1, 1) := by decide +kernel
theorem dX6_ordered_39 : decode cX6_ordered 39 = .ok (.invokevirtual 203, 3) := by decide +kernel
theorem dX6_ordered_42 : decode cX6_ordered 42 = .ok (.checkcast 206, 3) := by decide +kernel
theorem dX6_ordered_45 : decode cX6_ordered 45 = .ok (.iload_n 2, 1) := by decide +kernel
theorem dX6_ordered_46 : decode cX6_ordered 46 = .ok (.invokevirtual 208, 3) := by decide +kernel
theorem dX6_ordered_49 : decode cX6_ordered 49 = .ok (.goto 6, 3) := by decide +kernel
theorem dX6_ordered_52 : decode cX6_ordered 52 = .ok (.sipush (-1001), 3) := by decide +kernel
theorem dX6_ordered_55 : decode cX6_ordered 55 = .ok (.ireturn, 1) := by decide +kernel
theorem dX6_foretell_0 : decode cX6_foretell 0 = .ok (.iload_n 1, 1) := by decide +kernel
theorem dX6_foretell_1 : decode cX6_foretell 1 = .ok (.iconst 1, 1) := by decide +kernel
theorem dX6_foretell_2 : decode cX6_foretell 2 = .ok (.sipush 200, 3) := by decide +kernel
theorem dX6_foretell_5 : decode cX6_foretell 5 = .ok (.invokestatic 33, 3) := by decide +kernel
theorem dX6_foretell_8 : decode cX6_foretell 8 = .ok (.ifCond .eq 13, 3) := by decide +kernel
theorem dX6_foretell_11 : decode cX6_foretell 11 = .ok (.iload_n 2, 1) := by decide +kernel
theorem dX6_foretell_12 : decode cX6_foretell 12 = .ok (.iconst 0, 1) := by decide +kernel
theorem dX6_foretell_13 : decode cX6_foretell 13 = .ok (.bipush 6, 2) := by decide +kernel
theorem dX6_foretell_15 : decode cX6_foretell 15 = .ok (.invokestatic 33, 3) := by decide +kernel
theorem dX6_foretell_18 : decode cX6_foretell 18 = .ok (.ifCond .ne 7, 3) := by decide +kernel
theorem dX6_foretell_21 : decode cX6_foretell 21 = .ok (.sipush (-1002), 3) := by decide +kernel
theorem dX6_foretell_24 : decode cX6_foretell 24 = .ok (.ireturn, 1) := by decide +kernel
theorem dX6_foretell_25 : decode cX6_foretell 25 = .ok (.aload_n 0, 1) := by decide +kernel
theorem dX6_foretell_26 : decode cX6_foretell 26 = .ok (.iload_n 1, 1) := by decide +kernel
theorem dX6_foretell_27 : decode cX6_foretell 27 = .ok (.invokevirtual 211, 3) := by decide +kernel
theorem dX6_foretell_30 : decode cX6_foretell 30 = .ok (.aload_n 0, 1) := by decide +kernel
theorem dX6_foretell_31 : decode cX6_foretell 31 = .ok (.iload_n 2, 1) := by decide +kernel
theorem dX6_foretell_32 : decode cX6_foretell 32 = .ok (.invokevirtual 214, 3) := by decide +kernel
theorem dX6_foretell_35 : decode cX6_foretell 35 = .ok (.ireturn, 1) := by decide +kernel
theorem dX6_emptyAfter_0 : decode cX6_emptyAfter 0 = .ok (.aload_n 0, 1) := by decide +kernel
theorem dX6_emptyAfter_1 : decode cX6_emptyAfter 1 = .ok (.getfield 23, 3) := by decide +kernel
theorem dX6_emptyAfter_4 : decode cX6_emptyAfter 4 = .ok (.aload_n 0, 1) := by decide +kernel
theorem dX6_emptyAfter_5 : decode cX6_emptyAfter 5 = .ok (.getfield 19, 3) := by decide +kernel
theorem dX6_emptyAfter_8 : decode cX6_emptyAfter 8 = .ok (.invokevirtual 217, 3) := by decide +kernel
theorem dX6_emptyAfter_11 : decode cX6_emptyAfter 11 = .ok (.iconst 0, 1) := by decide +kernel
theorem dX6_emptyAfter_12 : decode cX6_emptyAfter 12 = .ok (.istore_n 1, 1) := by decide +kernel
theorem dX6_emptyAfter_13 : decode cX6_emptyAfter 13 = .ok (.iload_n 1, 1) := by decide +kernel
theorem dX6_emptyAfter_14 : decode cX6_emptyAfter 14 = .ok (.sipush 400, 3) := by decide +kernel
theorem dX6_emptyAfter_17 : decode cX6_emptyAfter 17 = .ok (.if_icmp .gt 31, 3) := by decide +kernel
theorem dX6_emptyAfter_20 : decode cX6_emptyAfter 20 = .ok (.aload_n 0, 1) := by decide +kernel
theorem dX6_emptyAfter_21 : decode cX6_emptyAfter 21 = .ok (.getfield 23, 3) := by decide +kernel
theorem dX6_emptyAfter_24 : decode cX6_emptyAfter 24 = .ok (.getfield 65, 3) := by decide +kernel
theorem dX6_emptyAfter_27 : decode cX6_emptyAfter 27 = .ok (.invokevirtual 69, 3) := by decide +kernel
theorem dX6_emptyAfter_30 : decode cX6_emptyAfter 30 = .ok (.ifCond .ne 5, 3) := by decide +kernel
theorem dX6_emptyAfter_33 : decode cX6_emptyAfter 33 = .ok (.iload_n 1, 1) := by decide +kernel
theorem dX6_emptyAfter_34 : decode cX6_emptyAfter 34 = .ok (.ireturn, 1) := by decide +kernel
theorem dX6_emptyAfter_35 : decode cX6_emptyAfter 35 = .ok (.aload_n 0, 1) := by decide +kernel
theorem dX6_emptyAfter_36 : decode cX6_emptyAfter 36 = .ok (.getfield 23, 3) := by decide +kernel
theorem dX6_emptyAfter_39 : decode cX6_emptyAfter 39 = .ok (.invokevirtual 220, 3) := by decide +kernel
theorem dX6_emptyAfter_42 : decode cX6_emptyAfter 42 = .ok (.iinc 1 1, 3) := by decide +kernel
theorem dX6_emptyAfter_45 : decode cX6_emptyAfter 45 = .ok (.goto (-32), 3) := by decide +kernel
theorem dX6_emptyAfter_48 : decode cX6_emptyAfter 48 = .ok (.sipush (-1001), 3) := by decide +kernel
theorem dX6_emptyAfter_51 : decode cX6_emptyAfter 51 = .ok (.ireturn, 1) := by decide +kernel
theorem dX6_count_0 : decode cX6_count 0 = .ok (.iload_n 1, 1) := by decide +kernel
theorem dX6_count_1 : decode cX6_count 1 = .ok (.bipush 14, 2) := by decide +kernel
theorem dX6_count_3 : decode cX6_count 3 = .ok (.bipush 18, 2) := by decide +kernel
theorem dX6_count_5 : decode cX6_count 5 = .ok (.invokestatic 33, 3) := by decide +kernel
theorem dX6_count_8 : decode cX6_count 8 = .ok (.ifCond .eq 16, 3) := by decide +kernel
theorem dX6_count_11 : decode cX6_count 11 = .ok (.aload_n 0, 1) := by decide +kernel
theorem dX6_count_12 : decode cX6_count 12 = .ok (.getfield 19, 3) := by decide +kernel
theorem dX6_count_15 : decode cX6_count 15 = .ok (.getfield 62, 3) := by decide +kernel
theorem dX6_count_18 : decode cX6_count 18 = .ok (.iload_n 1, 1) := by decide +kernel
theorem dX6_count_19 : decode cX6_count 19 = .ok (.bipush 14, 2) := by decide +kernel
theorem dX6_count_21 : decode cX6_count 21 = .ok (.isub, 1) := by decide +kernel
theorem dX6_count_22 : decode cX6_count 22 = .ok (.iaload, 1) := by decide +kernel
theorem dX6_count_23 : decode cX6_count 23 = .ok (.ireturn, 1) := by decide +kernel
theorem dX6_count_24 : decode cX6_count 24 = .ok (.iload_n 1, 1) := by decide +kernel
theorem dX6_count_25 : decode cX6_count 25 = .ok (.tableswitch 204 0 13 #[71, 82, 93, 104, 115, 123, 134, 142, 150, 161, 172, 180, 188, 196], 71) := by decide +kernel
theorem dX6_count_96 : decode cX6_count 96 = .ok (.aload_n 0, 1) := by decide +kernel
theorem dX6_count_97 : decode cX6_count 97 = .ok (.getfield 19, 3) := by decide +kernel
theorem dX6_count_100 : decode cX6_count 100 = .ok (.getfield 65, 3) := by decide +kernel
theorem dX6_count_103 : decode cX6_count 103 = .ok (.getfield 223, 3) := by decide +kernel
theorem dX6_count_106 : decode cX6_count 106 = .ok (.ireturn, 1) := by decide +kernel
theorem dX6_count_107 : decode cX6_count 107 = .ok (.aload_n 0, 1) := by decide +kernel
theorem dX6_count_108 : decode cX6_count 108 = .ok (.getfield 19, 3) := by decide +kernel
theorem dX6_count_111 : decode cX6_count 111 = .ok (.getfield 65, 3) := by decide +kernel
theorem dX6_count_114 : decode cX6_count 114 = .ok (.getfield 136, 3) := by decide +kernel
theorem dX6_count_117 : decode cX6_count 117 = .ok (.ireturn, 1) := by decide +kernel
theorem dX6_count_118 : decode cX6_count 118 = .ok (.aload_n 0, 1) := by decide +kernel
theorem dX6_count_119 : decode cX6_count 119 = .ok (.getfield 19, 3) := by decide +kernel
theorem dX6_count_122 : decode cX6_count 122 = .ok (.getfield 65, 3) := by decide +kernel
theorem dX6_count_125 : decode cX6_count 125 = .ok (.getfield 85, 3) := by decide +kernel
theorem dX6_count_128 : decode cX6_count 128 = .ok (.ireturn, 1) := by decide +kernel
theorem dX6_count_129 : decode cX6_count 129 = .ok (.aload_n 0, 1) := by decide +kernel
theorem dX6_count_130 : decode cX6_count 130 = .ok (.getfield 19, 3) := by decide +kernel
theorem dX6_count_133 : decode cX6_count 133 = .ok (.getfield 65, 3) := by decide +kernel
theorem dX6_count_136 : decode cX6_count 136 = .ok (.getfield 109, 3) := by decide +kernel
theorem dX6_count_139 : decode cX6_count 139 = .ok (.ireturn, 1) := by decide +kernel
theorem dX6_count_140 : decode cX6_count 140 = .ok (.aload_n 0, 1) := by decide +kernel
theorem dX6_count_141 : decode cX6_count 141 = .ok (.getfield 19, 3) := by decide +kernel
theorem dX6_count_144 : decode cX6_count 144 = .ok (.getfield 130, 3) := by decide +kernel
theorem dX6_count_147 : decode cX6_count 147 = .ok (.ireturn, 1) := by decide +kernel
theorem dX6_count_148 : decode cX6_count 148 = .ok (.aload_n 0, 1) := by decide +kernel
theorem dX6_count_149 : decode cX6_count 149 = .ok (.getfield 19, 3) := by decide +kernel
theorem dX6_count_152 : decode cX6_count 152 = .ok (.getfield 112, 3) := by decide +kernel
theorem dX6_count_155 : decode cX6_count 155 = .ok (.invokevirtual 116, 3) := by decide +kernel
theorem dX6_count_158 : decode cX6_count 158 = .ok (.ireturn, 1) := by decide +kernel
theorem dX6_count_159 : decode cX6_count 159 = .ok (.aload_n 0, 1) := by decide +kernel
theorem dX6_count_160 : decode cX6_count 160 = .ok (.getfield 19, 3) := by decide +kernel
theorem dX6_count_163 : decode cX6_count 163 = .ok (.getfield 226, 3) := by decide +kernel
theorem dX6_count_166 : decode cX6_count 166 = .ok (.ireturn, 1) := by decide +kernel
theorem dX6_count_167 : decode cX6_count 167 = .ok (.aload_n 0, 1) := by decide +kernel
theorem dX6_count_168 : decode cX6_count 168 = .ok (.getfield 19, 3) := by decide +kernel
theorem dX6_count_171 : decode cX6_count 171 = .ok (.getfield 91, 3) := by decide +kernel
theorem dX6_count_174 : decode cX6_count 174 = .ok (.ireturn, 1) := by decide +kernel
theorem dX6_count_175 : decode cX6_count 175 = .ok (.aload_n 0, 1) := by decide +kernel
theorem dX6_count_176 : decode cX6_count 176 = .ok (.getfield 19, 3) := by decide +kernel
theorem dX6_count_179 : decode cX6_count 179 = .ok (.getfield 65, 3) := by decide +kernel
theorem dX6_count_182 : decode cX6_count 182 = .ok (.invokevirtual 69, 3) := by decide +kernel
theorem dX6_count_185 : decode cX6_count 185 = .ok (.ireturn, 1) := by decide +kernel
theorem dX6_count_186 : decode cX6_count 186 = .ok (.aload_n 0, 1) := by decide +kernel
theorem dX6_count_187 : decode cX6_count 187 = .ok (.getfield 19, 3) := by decide +kernel
theorem dX6_count_190 : decode cX6_count 190 = .ok (.getfield 144, 3) := by decide +kernel
theorem dX6_count_193 : decode cX6_count 193 = .ok (.invokevirtual 229, 3) := by decide +kernel
theorem dX6_count_196 : decode cX6_count 196 = .ok (.ireturn, 1) := by decide +kernel
theorem dX6_count_197 : decode cX6_count 197 = .ok (.aload_n 0, 1) := by decide +kernel
theorem dX6_count_198 : decode cX6_count 198 = .ok (.getfield 19, 3) := by decide +kernel
theorem dX6_count_201 : decode cX6_count 201 = .ok (.getfield 230, 3) := by decide +kernel
theorem dX6_count_204 : decode cX6_count 204 = .ok (.ireturn, 1) := by decide +kernel
theorem dX6_count_205 : decode cX6_count 205 = .ok (.aload_n 0, 1) := by decide +kernel
theorem dX6_count_206 : decode cX6_count 206 = .ok (.getfield 19, 3) := by decide +kernel
theorem dX6_count_209 : decode cX6_count 209 = .ok (.getfield 79, 3) := by decide +kernel
theorem dX6_count_212 : decode cX6_count 212 = .ok (.ireturn, 1) := by decide +kernel
theorem dX6_count_213 : decode cX6_count 213 = .ok (.aload_n 0, 1) := by decide +kernel
theorem dX6_count_214 : decode cX6_count 214 = .ok (.getfield 29, 3) := by decide +kernel
theorem dX6_count_217 : decode cX6_count 217 = .ok (.getfield 159, 3) := by decide +kernel
theorem dX6_count_220 : decode cX6_count 220 = .ok (.ireturn, 1) := by decide +kernel
theorem dX6_count_221 : decode cX6_count 221 = .ok (.aload_n 0, 1) := by decide +kernel
theorem dX6_count_222 : decode cX6_count 222 = .ok (.getfield 10, 3) := by decide +kernel
theorem dX6_count_225 : decode cX6_count 225 = .ok (.getfield 41, 3) := by decide +kernel
theorem dX6_count_228 : decode cX6_count 228 = .ok (.ireturn, 1) := by decide +kernel
theorem dX6_count_229 : decode cX6_count 229 = .ok (.sipush (-1002), 3) := by decide +kernel
theorem dX6_count_232 : decode cX6_count 232 = .ok (.ireturn, 1) := by decide +kernel
theorem dX6_digest_0 : decode cX6_digest 0 = .ok (.ldc2_w 233, 3) := by decide +kernel
theorem dX6_digest_3 : decode cX6_digest 3 = .ok (.lstore_n 1, 1) := by decide +kernel
theorem dX6_digest_4 : decode cX6_digest 4 = .ok (.iconst 0, 1) := by decide +kernel
theorem dX6_digest_5 : decode cX6_digest 5 = .ok (.istore_n 3, 1) := by decide +kernel
theorem dX6_digest_6 : decode cX6_digest 6 = .ok (.iload_n 3, 1) := by decide +kernel
theorem dX6_digest_7 : decode cX6_digest 7 = .ok (.bipush 19, 2) := by decide +kernel
theorem dX6_digest_9 : decode cX6_digest 9 = .ok (.if_icmp .ge 19, 3) := by decide +kernel
theorem dX6_digest_12 : decode cX6_digest 12 = .ok (.lload_n 1, 1) := by decide +kernel
theorem dX6_digest_13 : decode cX6_digest 13 = .ok (.aload_n 0, 1) := by decide +kernel
theorem dX6_digest_14 : decode cX6_digest 14 = .ok (.iload_n 3, 1) := by decide +kernel
theorem dX6_digest_15 : decode cX6_digest 15 = .ok (.invokevirtual 235, 3) := by decide +kernel
theorem dX6_digest_18 : decode cX6_digest 18 = .ok (.invokestatic 238, 3) := by decide +kernel
theorem dX6_digest_21 : decode cX6_digest 21 = .ok (.lstore_n 1, 1) := by decide +kernel
theorem dX6_digest_22 : decode cX6_digest 22 = .ok (.iinc 3 1, 3) := by decide +kernel
theorem dX6_digest_25 : decode cX6_digest 25 = .ok (.goto (-19), 3) := by decide +kernel
theorem dX6_digest_28 : decode cX6_digest 28 = .ok (.aload_n 0, 1) := by decide +kernel
theorem dX6_digest_29 : decode cX6_digest 29 = .ok (.lload_n 1, 1) := by decide +kernel
theorem dX6_digest_30 : decode cX6_digest 30 = .ok (.invokevirtual 242, 3) := by decide +kernel
theorem dX6_digest_33 : decode cX6_digest 33 = .ok (.lstore_n 1, 1) := by decide +kernel
theorem dX6_digest_34 : decode cX6_digest 34 = .ok (.aload_n 0, 1) := by decide +kernel
theorem dX6_digest_35 : decode cX6_digest 35 = .ok (.lload_n 1, 1) := by decide +kernel
theorem dX6_digest_36 : decode cX6_digest 36 = .ok (.invokevirtual 246, 3) := by decide +kernel
theorem dX6_digest_39 : decode cX6_digest 39 = .ok (.lstore_n 1, 1) := by decide +kernel
theorem dX6_digest_40 : decode cX6_digest 40 = .ok (.aload_n 0, 1) := by decide +kernel
theorem dX6_digest_41 : decode cX6_digest 41 = .ok (.lload_n 1, 1) := by decide +kernel
theorem dX6_digest_42 : decode cX6_digest 42 = .ok (.invokevirtual 249, 3) := by decide +kernel
theorem dX6_digest_45 : decode cX6_digest 45 = .ok (.lstore_n 1, 1) := by decide +kernel
theorem dX6_digest_46 : decode cX6_digest 46 = .ok (.aload_n 0, 1) := by decide +kernel
theorem dX6_digest_47 : decode cX6_digest 47 = .ok (.bipush 20, 2) := by decide +kernel
theorem dX6_digest_49 : decode cX6_digest 49 = .ok (.invokevirtual 211, 3) := by decide +kernel
theorem dX6_digest_52 : decode cX6_digest 52 = .ok (.iconst 0, 1) := by decide +kernel
theorem dX6_digest_53 : decode cX6_digest 53 = .ok (.istore_n 3, 1) := by decide +kernel
theorem dX6_digest_54 : decode cX6_digest 54 = .ok (.iload_n 3, 1) := by decide +kernel
theorem dX6_digest_55 : decode cX6_digest 55 = .ok (.bipush 7, 2) := by decide +kernel
theorem dX6_digest_57 : decode cX6_digest 57 = .ok (.if_icmp .ge 19, 3) := by decide +kernel
theorem dX6_digest_60 : decode cX6_digest 60 = .ok (.lload_n 1, 1) := by decide +kernel
theorem dX6_digest_61 : decode cX6_digest 61 = .ok (.aload_n 0, 1) := by decide +kernel
theorem dX6_digest_62 : decode cX6_digest 62 = .ok (.iload_n 3, 1) := by decide +kernel
theorem dX6_digest_63 : decode cX6_digest 63 = .ok (.invokevirtual 214, 3) := by decide +kernel
theorem dX6_digest_66 : decode cX6_digest 66 = .ok (.invokestatic 238, 3) := by decide +kernel
theorem dX6_digest_69 : decode cX6_digest 69 = .ok (.lstore_n 1, 1) := by decide +kernel
theorem dX6_digest_70 : decode cX6_digest 70 = .ok (.iinc 3 1, 3) := by decide +kernel
theorem dX6_digest_73 : decode cX6_digest 73 = .ok (.goto (-19), 3) := by decide +kernel
theorem dX6_digest_76 : decode cX6_digest 76 = .ok (.lload_n 1, 1) := by decide +kernel
theorem dX6_digest_77 : decode cX6_digest 77 = .ok (.aload_n 0, 1) := by decide +kernel
theorem dX6_digest_78 : decode cX6_digest 78 = .ok (.invokevirtual 252, 3) := by decide +kernel
theorem dX6_digest_81 : decode cX6_digest 81 = .ok (.invokestatic 238, 3) := by decide +kernel
theorem dX6_digest_84 : decode cX6_digest 84 = .ok (.lstore_n 1, 1) := by decide +kernel
theorem dX6_digest_85 : decode cX6_digest 85 = .ok (.iconst 0, 1) := by decide +kernel
theorem dX6_digest_86 : decode cX6_digest 86 = .ok (.istore_n 3, 1) := by decide +kernel
theorem dX6_digest_87 : decode cX6_digest 87 = .ok (.iload_n 3, 1) := by decide +kernel
theorem dX6_digest_88 : decode cX6_digest 88 = .ok (.aload_n 0, 1) := by decide +kernel
theorem dX6_digest_89 : decode cX6_digest 89 = .ok (.getfield 10, 3) := by decide +kernel
theorem dX6_digest_92 : decode cX6_digest 92 = .ok (.getfield 41, 3) := by decide +kernel
theorem dX6_digest_95 : decode cX6_digest 95 = .ok (.if_icmp .ge 22, 3) := by decide +kernel
theorem dX6_digest_98 : decode cX6_digest 98 = .ok (.lload_n 1, 1) := by decide +kernel
theorem dX6_digest_99 : decode cX6_digest 99 = .ok (.aload_n 0, 1) := by decide +kernel
theorem dX6_digest_100 : decode cX6_digest 100 = .ok (.getfield 10, 3) := by decide +kernel
theorem dX6_digest_103 : decode cX6_digest 103 = .ok (.iload_n 3, 1) := by decide +kernel
theorem dX6_digest_104 : decode cX6_digest 104 = .ok (.invokevirtual 255, 3) := by decide +kernel
theorem dX6_digest_107 : decode cX6_digest 107 = .ok (.invokestatic 238, 3) := by decide +kernel
theorem dX6_digest_110 : decode cX6_digest 110 = .ok (.lstore_n 1, 1) := by decide +kernel
theorem dX6_digest_111 : decode cX6_digest 111 = .ok (.iinc 3 1, 3) := by decide +kernel
theorem dX6_digest_114 : decode cX6_digest 114 = .ok (.goto (-27), 3) := by decide +kernel
theorem dX6_digest_117 : decode cX6_digest 117 = .ok (.lload_n 1, 1) := by decide +kernel
theorem dX6_digest_118 : decode cX6_digest 118 = .ok (.lreturn, 1) := by decide +kernel
theorem dX6_mixedWithTrain_0 : decode cX6_mixedWithTrain 0 = .ok (.lload_n 1, 1) := by decide +kernel
theorem dX6_mixedWithTrain_1 : decode cX6_mixedWithTrain 1 = .ok (.lstore_n 3, 1) := by decide +kernel
theorem dX6_mixedWithTrain_2 : decode cX6_mixedWithTrain 2 = .ok (.iconst 0, 1) := by decide +kernel
theorem dX6_mixedWithTrain_3 : decode cX6_mixedWithTrain 3 = .ok (.istore 5, 2) := by decide +kernel
theorem dX6_mixedWithTrain_5 : decode cX6_mixedWithTrain 5 = .ok (.iload 5, 2) := by decide +kernel
theorem dX6_mixedWithTrain_7 : decode cX6_mixedWithTrain 7 = .ok (.aload_n 0, 1) := by decide +kernel
theorem dX6_mixedWithTrain_8 : decode cX6_mixedWithTrain 8 = .ok (.getfield 19, 3) := by decide +kernel
theorem dX6_mixedWithTrain_11 : decode cX6_mixedWithTrain 11 = .ok (.getfield 65, 3) := by decide +kernel
theorem dX6_mixedWithTrain_14 : decode cX6_mixedWithTrain 14 = .ok (.getfield 223, 3) := by decide +kernel
theorem dX6_mixedWithTrain_17 : decode cX6_mixedWithTrain 17 = .ok (.if_icmp .ge 82, 3) := by decide +kernel
theorem dX6_mixedWithTrain_20 : decode cX6_mixedWithTrain 20 = .ok (.iconst 0, 1) := by decide +kernel
theorem dX6_mixedWithTrain_21 : decode cX6_mixedWithTrain 21 = .ok (.istore 6, 2) := by decide +kernel
theorem dX6_mixedWithTrain_23 : decode cX6_mixedWithTrain 23 = .ok (.iload 6, 2) := by decide +kernel
theorem dX6_mixedWithTrain_25 : decode cX6_mixedWithTrain 25 = .ok (.iconst 5, 1) := by decide +kernel
theorem dX6_mixedWithTrain_26 : decode cX6_mixedWithTrain 26 = .ok (.if_icmp .ge 22, 3) := by decide +kernel
theorem dX6_mixedWithTrain_29 : decode cX6_mixedWithTrain 29 = .ok (.lload_n 3, 1) := by decide +kernel
theorem dX6_mixedWithTrain_30 : decode cX6_mixedWithTrain 30 = .ok (.aload_n 0, 1) := by decide +kernel
theorem dX6_mixedWithTrain_31 : decode cX6_mixedWithTrain 31 = .ok (.iload 5, 2) := by decide +kernel
theorem dX6_mixedWithTrain_33 : decode cX6_mixedWithTrain 33 = .ok (.iload 6, 2) := by decide +kernel
theorem dX6_mixedWithTrain_35 : decode cX6_mixedWithTrain 35 = .ok (.invokevirtual 258, 3) := by decide +kernel
theorem dX6_mixedWithTrain_38 : decode cX6_mixedWithTrain 38 = .ok (.invokestatic 238, 3) := by decide +kernel
theorem dX6_mixedWithTrain_41 : decode cX6_mixedWithTrain 41 = .ok (.lstore_n 3, 1) := by decide +kernel
theorem dX6_mixedWithTrain_42 : decode cX6_mixedWithTrain 42 = .ok (.iinc 6 1, 3) := by decide +kernel
theorem dX6_mixedWithTrain_45 : decode cX6_mixedWithTrain 45 = .ok (.goto (-22), 3) := by decide +kernel
theorem dX6_mixedWithTrain_48 : decode cX6_mixedWithTrain 48 = .ok (.iconst 0, 1) := by decide +kernel
theorem dX6_mixedWithTrain_49 : decode cX6_mixedWithTrain 49 = .ok (.istore 6, 2) := by decide +kernel
theorem dX6_mixedWithTrain_51 : decode cX6_mixedWithTrain 51 = .ok (.iload 6, 2) := by decide +kernel
theorem dX6_mixedWithTrain_53 : decode cX6_mixedWithTrain 53 = .ok (.iconst 3, 1) := by decide +kernel
theorem dX6_mixedWithTrain_54 : decode cX6_mixedWithTrain 54 = .ok (.if_icmp .ge 39, 3) := by decide +kernel
theorem dX6_mixedWithTrain_57 : decode cX6_mixedWithTrain 57 = .ok (.iconst 0, 1) := by decide +kernel
theorem dX6_mixedWithTrain_58 : decode cX6_mixedWithTrain 58 = .ok (.istore 7, 2) := by decide +kernel
theorem dX6_mixedWithTrain_60 : decode cX6_mixedWithTrain 60 = .ok (.iload 7, 2) := by decide +kernel
theorem dX6_mixedWithTrain_62 : decode cX6_mixedWithTrain 62 = .ok (.iconst 2, 1) := by decide +kernel
theorem dX6_mixedWithTrain_63 : decode cX6_mixedWithTrain 63 = .ok (.if_icmp .ge 24, 3) := by decide +kernel
theorem dX6_mixedWithTrain_66 : decode cX6_mixedWithTrain 66 = .ok (.lload_n 3, 1) := by decide +kernel
theorem dX6_mixedWithTrain_67 : decode cX6_mixedWithTrain 67 = .ok (.aload_n 0, 1) := by decide +kernel
theorem dX6_mixedWithTrain_68 : decode cX6_mixedWithTrain 68 = .ok (.iload 5, 2) := by decide +kernel
theorem dX6_mixedWithTrain_70 : decode cX6_mixedWithTrain 70 = .ok (.iload 6, 2) := by decide +kernel
theorem dX6_mixedWithTrain_72 : decode cX6_mixedWithTrain 72 = .ok (.iload 7, 2) := by decide +kernel
theorem dX6_mixedWithTrain_74 : decode cX6_mixedWithTrain 74 = .ok (.invokevirtual 261, 3) := by decide +kernel
theorem dX6_mixedWithTrain_77 : decode cX6_mixedWithTrain 77 = .ok (.invokestatic 238, 3) := by decide +kernel
theorem dX6_mixedWithTrain_80 : decode cX6_mixedWithTrain 80 = .ok (.lstore_n 3, 1) := by decide +kernel
theorem dX6_mixedWithTrain_81 : decode cX6_mixedWithTrain 81 = .ok (.iinc 7 1, 3) := by decide +kernel
theorem dX6_mixedWithTrain_84 : decode cX6_mixedWithTrain 84 = .ok (.goto (-24), 3) := by decide +kernel
theorem dX6_mixedWithTrain_87 : decode cX6_mixedWithTrain 87 = .ok (.iinc 6 1, 3) := by decide +kernel
theorem dX6_mixedWithTrain_90 : decode cX6_mixedWithTrain 90 = .ok (.goto (-39), 3) := by decide +kernel
theorem dX6_mixedWithTrain_93 : decode cX6_mixedWithTrain 93 = .ok (.iinc 5 1, 3) := by decide +kernel
theorem dX6_mixedWithTrain_96 : decode cX6_mixedWithTrain 96 = .ok (.goto (-91), 3) := by decide +kernel
theorem dX6_mixedWithTrain_99 : decode cX6_mixedWithTrain 99 = .ok (.lload_n 3, 1) := by decide +kernel
theorem dX6_mixedWithTrain_100 : decode cX6_mixedWithTrain 100 = .ok (.lreturn, 1) := by decide +kernel
theorem dX6_mixedWithTrack_0 : decode cX6_mixedWithTrack 0 = .ok (.lload_n 1, 1) := by decide +kernel
theorem dX6_mixedWithTrack_1 : decode cX6_mixedWithTrack 1 = .ok (.lstore_n 3, 1) := by decide +kernel
theorem dX6_mixedWithTrack_2 : decode cX6_mixedWithTrack 2 = .ok (.iconst 0, 1) := by decide +kernel
theorem dX6_mixedWithTrack_3 : decode cX6_mixedWithTrack 3 = .ok (.istore 5, 2) := by decide +kernel
theorem dX6_mixedWithTrack_5 : decode cX6_mixedWithTrack 5 = .ok (.iload 5, 2) := by decide +kernel
theorem dX6_mixedWithTrack_7 : decode cX6_mixedWithTrack 7 = .ok (.bipush 40, 2) := by decide +kernel
theorem dX6_mixedWithTrack_9 : decode cX6_mixedWithTrack 9 = .ok (.if_icmp .ge 37, 3) := by decide +kernel
theorem dX6_mixedWithTrack_12 : decode cX6_mixedWithTrack 12 = .ok (.iconst 0, 1) := by decide +kernel
theorem dX6_mixedWithTrack_13 : decode cX6_mixedWithTrack 13 = .ok (.istore 6, 2) := by decide +kernel
theorem dX6_mixedWithTrack_15 : decode cX6_mixedWithTrack 15 = .ok (.iload 6, 2) := by decide +kernel
theorem dX6_mixedWithTrack_17 : decode cX6_mixedWithTrack 17 = .ok (.iconst 3, 1) := by decide +kernel
theorem dX6_mixedWithTrack_18 : decode cX6_mixedWithTrack 18 = .ok (.if_icmp .ge 22, 3) := by decide +kernel
theorem dX6_mixedWithTrack_21 : decode cX6_mixedWithTrack 21 = .ok (.lload_n 3, 1) := by decide +kernel
theorem dX6_mixedWithTrack_22 : decode cX6_mixedWithTrack 22 = .ok (.aload_n 0, 1) := by decide +kernel
theorem dX6_mixedWithTrack_23 : decode cX6_mixedWithTrack 23 = .ok (.iload 5, 2) := by decide +kernel
theorem dX6_mixedWithTrack_25 : decode cX6_mixedWithTrack 25 = .ok (.iload 6, 2) := by decide +kernel
theorem dX6_mixedWithTrack_27 : decode cX6_mixedWithTrack 27 = .ok (.invokevirtual 265, 3) := by decide +kernel
theorem dX6_mixedWithTrack_30 : decode cX6_mixedWithTrack 30 = .ok (.invokestatic 238, 3) := by decide +kernel
theorem dX6_mixedWithTrack_33 : decode cX6_mixedWithTrack 33 = .ok (.lstore_n 3, 1) := by decide +kernel
theorem dX6_mixedWithTrack_34 : decode cX6_mixedWithTrack 34 = .ok (.iinc 6 1, 3) := by decide +kernel
theorem dX6_mixedWithTrack_37 : decode cX6_mixedWithTrack 37 = .ok (.goto (-22), 3) := by decide +kernel
theorem dX6_mixedWithTrack_40 : decode cX6_mixedWithTrack 40 = .ok (.iinc 5 1, 3) := by decide +kernel
theorem dX6_mixedWithTrack_43 : decode cX6_mixedWithTrack 43 = .ok (.goto (-38), 3) := by decide +kernel
theorem dX6_mixedWithTrack_46 : decode cX6_mixedWithTrack 46 = .ok (.iconst 0, 1) := by decide +kernel
theorem dX6_mixedWithTrack_47 : decode cX6_mixedWithTrack 47 = .ok (.istore 5, 2) := by decide +kernel
theorem dX6_mixedWithTrack_49 : decode cX6_mixedWithTrack 49 = .ok (.iload 5, 2) := by decide +kernel
theorem dX6_mixedWithTrack_51 : decode cX6_mixedWithTrack 51 = .ok (.iconst 3, 1) := by decide +kernel
theorem dX6_mixedWithTrack_52 : decode cX6_mixedWithTrack 52 = .ok (.if_icmp .ge 38, 3) := by decide +kernel
theorem dX6_mixedWithTrack_55 : decode cX6_mixedWithTrack 55 = .ok (.iconst 0, 1) := by decide +kernel
theorem dX6_mixedWithTrack_56 : decode cX6_mixedWithTrack 56 = .ok (.istore 6, 2) := by decide +kernel
theorem dX6_mixedWithTrack_58 : decode cX6_mixedWithTrack 58 = .ok (.iload 6, 2) := by decide +kernel
theorem dX6_mixedWithTrack_60 : decode cX6_mixedWithTrack 60 = .ok (.bipush 6, 2) := by decide +kernel
theorem dX6_mixedWithTrack_62 : decode cX6_mixedWithTrack 62 = .ok (.if_icmp .ge 22, 3) := by decide +kernel
theorem dX6_mixedWithTrack_65 : decode cX6_mixedWithTrack 65 = .ok (.lload_n 3, 1) := by decide +kernel
theorem dX6_mixedWithTrack_66 : decode cX6_mixedWithTrack 66 = .ok (.aload_n 0, 1) := by decide +kernel
theorem dX6_mixedWithTrack_67 : decode cX6_mixedWithTrack 67 = .ok (.iload 5, 2) := by decide +kernel
theorem dX6_mixedWithTrack_69 : decode cX6_mixedWithTrack 69 = .ok (.iload 6, 2) := by decide +kernel
theorem dX6_mixedWithTrack_71 : decode cX6_mixedWithTrack 71 = .ok (.invokevirtual 268, 3) := by decide +kernel
theorem dX6_mixedWithTrack_74 : decode cX6_mixedWithTrack 74 = .ok (.invokestatic 238, 3) := by decide +kernel
theorem dX6_mixedWithTrack_77 : decode cX6_mixedWithTrack 77 = .ok (.lstore_n 3, 1) := by decide +kernel
theorem dX6_mixedWithTrack_78 : decode cX6_mixedWithTrack 78 = .ok (.iinc 6 1, 3) := by decide +kernel
theorem dX6_mixedWithTrack_81 : decode cX6_mixedWithTrack 81 = .ok (.goto (-23), 3) := by decide +kernel
theorem dX6_mixedWithTrack_84 : decode cX6_mixedWithTrack 84 = .ok (.iinc 5 1, 3) := by decide +kernel
theorem dX6_mixedWithTrack_87 : decode cX6_mixedWithTrack 87 = .ok (.goto (-38), 3) := by decide +kernel
theorem dX6_mixedWithTrack_90 : decode cX6_mixedWithTrack 90 = .ok (.lload_n 3, 1) := by decide +kernel
theorem dX6_mixedWithTrack_91 : decode cX6_mixedWithTrack 91 = .ok (.aload_n 0, 1) := by decide +kernel
theorem dX6_mixedWithTrack_92 : decode cX6_mixedWithTrack 92 = .ok (.iconst (-1), 1) := by decide +kernel
theorem dX6_mixedWithTrack_93 : decode cX6_mixedWithTrack 93 = .ok (.invokevirtual 271, 3) := by decide +kernel
theorem dX6_mixedWithTrack_96 : decode cX6_mixedWithTrack 96 = .ok (.invokestatic 238, 3) := by decide +kernel
theorem dX6_mixedWithTrack_99 : decode cX6_mixedWithTrack 99 = .ok (.lreturn, 1) := by decide +kernel
theorem dX6_mixedWithOrders_0 : decode cX6_mixedWithOrders 0 = .ok (.lload_n 1, 1) := by decide +kernel
theorem dX6_mixedWithOrders_1 : decode cX6_mixedWithOrders 1 = .ok (.lstore_n 3, 1) := by decide +kernel
theorem dX6_mixedWithOrders_2 : decode cX6_mixedWithOrders 2 = .ok (.iconst 0, 1) := by decide +kernel
theorem dX6_mixedWithOrders_3 : decode cX6_mixedWithOrders 3 = .ok (.istore 5, 2) := by decide +kernel
theorem dX6_mixedWithOrders_5 : decode cX6_mixedWithOrders 5 = .ok (.iload 5, 2) := by decide +kernel
theorem dX6_mixedWithOrders_7 : decode cX6_mixedWithOrders 7 = .ok (.aload_n 0, 1) := by decide +kernel
theorem dX6_mixedWithOrders_8 : decode cX6_mixedWithOrders 8 = .ok (.getfield 19, 3) := by decide +kernel
theorem dX6_mixedWithOrders_11 : decode cX6_mixedWithOrders 11 = .ok (.getfield 112, 3) := by decide +kernel
theorem dX6_mixedWithOrders_14 : decode cX6_mixedWithOrders 14 = .ok (.invokevirtual 116, 3) := by decide +kernel
theorem dX6_mixedWithOrders_17 : decode cX6_mixedWithOrders 17 = .ok (.if_icmp .ge 37, 3) := by decide +kernel
theorem dX6_mixedWithOrders_20 : decode cX6_mixedWithOrders 20 = .ok (.iconst 0, 1) := by decide +kernel
theorem dX6_mixedWithOrders_21 : decode cX6_mixedWithOrders 21 = .ok (.istore 6, 2) := by decide +kernel
theorem dX6_mixedWithOrders_23 : decode cX6_mixedWithOrders 23 = .ok (.iload 6, 2) := by decide +kernel
theorem dX6_mixedWithOrders_25 : decode cX6_mixedWithOrders 25 = .ok (.iconst 5, 1) := by decide +kernel
theorem dX6_mixedWithOrders_26 : decode cX6_mixedWithOrders 26 = .ok (.if_icmp .ge 22, 3) := by decide +kernel
theorem dX6_mixedWithOrders_29 : decode cX6_mixedWithOrders 29 = .ok (.lload_n 3, 1) := by decide +kernel
theorem dX6_mixedWithOrders_30 : decode cX6_mixedWithOrders 30 = .ok (.aload_n 0, 1) := by decide +kernel
theorem dX6_mixedWithOrders_31 : decode cX6_mixedWithOrders 31 = .ok (.iload 5, 2) := by decide +kernel
theorem dX6_mixedWithOrders_33 : decode cX6_mixedWithOrders 33 = .ok (.iload 6, 2) := by decide +kernel
theorem dX6_mixedWithOrders_35 : decode cX6_mixedWithOrders 35 = .ok (.invokevirtual 274, 3) := by decide +kernel
theorem dX6_mixedWithOrders_38 : decode cX6_mixedWithOrders 38 = .ok (.invokestatic 238, 3) := by decide +kernel
theorem dX6_mixedWithOrders_41 : decode cX6_mixedWithOrders 41 = .ok (.lstore_n 3, 1) := by decide +kernel
theorem dX6_mixedWithOrders_42 : decode cX6_mixedWithOrders 42 = .ok (.iinc 6 1, 3) := by decide +kernel
theorem dX6_mixedWithOrders_45 : decode cX6_mixedWithOrders 45 = .ok (.goto (-22), 3) := by decide +kernel
theorem dX6_mixedWithOrders_48 : decode cX6_mixedWithOrders 48 = .ok (.iinc 5 1, 3) := by decide +kernel
theorem dX6_mixedWithOrders_51 : decode cX6_mixedWithOrders 51 = .ok (.goto (-46), 3) := by decide +kernel
theorem dX6_mixedWithOrders_54 : decode cX6_mixedWithOrders 54 = .ok (.lload_n 3, 1) := by decide +kernel
theorem dX6_mixedWithOrders_55 : decode cX6_mixedWithOrders 55 = .ok (.lreturn, 1) := by decide +kernel
theorem dX6_mixed_0 : decode cX6_mixed 0 = .ok (.ldc2_w 277, 3) := by decide +kernel
theorem dX6_mixed_3 : decode cX6_mixed 3 = .ok (.lload_n 0, 1) := by decide +kernel
theorem dX6_mixed_4 : decode cX6_mixed 4 = .ok (.lmul, 1) := by decide +kernel
theorem dX6_mixed_5 : decode cX6_mixed 5 = .ok (.iload_n 2, 1) := by decide +kernel
theorem dX6_mixed_6 : decode cX6_mixed 6 = .ok (.i2l, 1) := by decide +kernel
theorem dX6_mixed_7 : decode cX6_mixed 7 = .ok (.ladd, 1) := by decide +kernel
theorem dX6_mixed_8 : decode cX6_mixed 8 = .ok (.lreturn, 1) := by decide +kernel
theorem dX6_lookAhead_0 : decode cX6_lookAhead 0 = .ok (.aload_n 0, 1) := by decide +kernel
theorem dX6_lookAhead_1 : decode cX6_lookAhead 1 = .ok (.getfield 23, 3) := by decide +kernel
theorem dX6_lookAhead_4 : decode cX6_lookAhead 4 = .ok (.aload_n 0, 1) := by decide +kernel
theorem dX6_lookAhead_5 : decode cX6_lookAhead 5 = .ok (.getfield 19, 3) := by decide +kernel
theorem dX6_lookAhead_8 : decode cX6_lookAhead 8 = .ok (.invokevirtual 217, 3) := by decide +kernel
theorem dX6_lookAhead_11 : decode cX6_lookAhead 11 = .ok (.iconst 0, 1) := by decide +kernel
theorem dX6_lookAhead_12 : decode cX6_lookAhead 12 = .ok (.istore_n 2, 1) := by decide +kernel
theorem dX6_lookAhead_13 : decode cX6_lookAhead 13 = .ok (.iload_n 2, 1) := by decide +kernel
theorem dX6_lookAhead_14 : decode cX6_lookAhead 14 = .ok (.iload_n 1, 1) := by decide +kernel
theorem dX6_lookAhead_15 : decode cX6_lookAhead 15 = .ok (.if_icmp .ge 16, 3) := by decide +kernel
theorem dX6_lookAhead_18 : decode cX6_lookAhead 18 = .ok (.aload_n 0, 1) := by decide +kernel
theorem dX6_lookAhead_19 : decode cX6_lookAhead 19 = .ok (.getfield 23, 3) := by decide +kernel
theorem dX6_lookAhead_22 : decode cX6_lookAhead 22 = .ok (.invokevirtual 133, 3) := by decide +kernel
theorem dX6_lookAhead_25 : decode cX6_lookAhead 25 = .ok (.iinc 2 1, 3) := by decide +kernel
theorem dX6_lookAhead_28 : decode cX6_lookAhead 28 = .ok (.goto (-15), 3) := by decide +kernel
theorem dX6_lookAhead_31 : decode cX6_lookAhead 31 = .ok (.return_, 1) := by decide +kernel
theorem dX6_foretold_0 : decode cX6_foretold 0 = .ok (.iload_n 1, 1) := by decide +kernel
theorem dX6_foretold_1 : decode cX6_foretold 1 = .ok (.tableswitch 123 0 6 #[43, 54, 65, 76, 84, 92, 112], 43) := by decide +kernel
theorem dX6_foretold_44 : decode cX6_foretold 44 = .ok (.aload_n 0, 1) := by decide +kernel
theorem dX6_foretold_45 : decode cX6_foretold 45 = .ok (.getfield 23, 3) := by decide +kernel
theorem dX6_foretold_48 : decode cX6_foretold 48 = .ok (.getfield 65, 3) := by decide +kernel
theorem dX6_foretold_51 : decode cX6_foretold 51 = .ok (.getfield 136, 3) := by decide +kernel
theorem dX6_foretold_54 : decode cX6_foretold 54 = .ok (.ireturn, 1) := by decide +kernel
theorem dX6_foretold_55 : decode cX6_foretold 55 = .ok (.aload_n 0, 1) := by decide +kernel
theorem dX6_foretold_56 : decode cX6_foretold 56 = .ok (.getfield 23, 3) := by decide +kernel
theorem dX6_foretold_59 : decode cX6_foretold 59 = .ok (.getfield 65, 3) := by decide +kernel
theorem dX6_foretold_62 : decode cX6_foretold 62 = .ok (.invokevirtual 69, 3) := by decide +kernel
theorem dX6_foretold_65 : decode cX6_foretold 65 = .ok (.ireturn, 1) := by decide +kernel
theorem dX6_foretold_66 : decode cX6_foretold 66 = .ok (.aload_n 0, 1) := by decide +kernel
theorem dX6_foretold_67 : decode cX6_foretold 67 = .ok (.getfield 23, 3) := by decide +kernel
theorem dX6_foretold_70 : decode cX6_foretold 70 = .ok (.getfield 144, 3) := by decide +kernel
theorem dX6_foretold_73 : decode cX6_foretold 73 = .ok (.invokevirtual 229, 3) := by decide +kernel
theorem dX6_foretold_76 : decode cX6_foretold 76 = .ok (.ireturn, 1) := by decide +kernel
theorem dX6_foretold_77 : decode cX6_foretold 77 = .ok (.aload_n 0, 1) := by decide +kernel
theorem dX6_foretold_78 : decode cX6_foretold 78 = .ok (.getfield 23, 3) := by decide +kernel
theorem dX6_foretold_81 : decode cX6_foretold 81 = .ok (.getfield 230, 3) := by decide +kernel
theorem dX6_foretold_84 : decode cX6_foretold 84 = .ok (.ireturn, 1) := by decide +kernel
theorem dX6_foretold_85 : decode cX6_foretold 85 = .ok (.aload_n 0, 1) := by decide +kernel
theorem dX6_foretold_86 : decode cX6_foretold 86 = .ok (.getfield 23, 3) := by decide +kernel
theorem dX6_foretold_89 : decode cX6_foretold 89 = .ok (.getfield 226, 3) := by decide +kernel
theorem dX6_foretold_92 : decode cX6_foretold 92 = .ok (.ireturn, 1) := by decide +kernel
theorem dX6_foretold_93 : decode cX6_foretold 93 = .ok (.aload_n 0, 1) := by decide +kernel
theorem dX6_foretold_94 : decode cX6_foretold 94 = .ok (.getfield 23, 3) := by decide +kernel
theorem dX6_foretold_97 : decode cX6_foretold 97 = .ok (.getfield 144, 3) := by decide +kernel
theorem dX6_foretold_100 : decode cX6_foretold 100 = .ok (.aload_n 0, 1) := by decide +kernel
theorem dX6_foretold_101 : decode cX6_foretold 101 = .ok (.getfield 23, 3) := by decide +kernel
theorem dX6_foretold_104 : decode cX6_foretold 104 = .ok (.getfield 62, 3) := by decide +kernel
theorem dX6_foretold_107 : decode cX6_foretold 107 = .ok (.iconst 4, 1) := by decide +kernel
theorem dX6_foretold_108 : decode cX6_foretold 108 = .ok (.iaload, 1) := by decide +kernel
theorem dX6_foretold_109 : decode cX6_foretold 109 = .ok (.invokevirtual 198, 3) := by decide +kernel
theorem dX6_foretold_112 : decode cX6_foretold 112 = .ok (.ireturn, 1) := by decide +kernel
theorem dX6_foretold_113 : decode cX6_foretold 113 = .ok (.aload_n 0, 1) := by decide +kernel
theorem dX6_foretold_114 : decode cX6_foretold 114 = .ok (.getfield 23, 3) := by decide +kernel
theorem dX6_foretold_117 : decode cX6_foretold 117 = .ok (.getfield 112, 3) := by decide +kernel
theorem dX6_foretold_120 : decode cX6_foretold 120 = .ok (.invokevirtual 116, 3) := by decide +kernel
theorem dX6_foretold_123 : decode cX6_foretold 123 = .ok (.ireturn, 1) := by decide +kernel
theorem dX6_foretold_124 : decode cX6_foretold 124 = .ok (.sipush (-1002), 3) := by decide +kernel
theorem dX6_foretold_127 : decode cX6_foretold 127 = .ok (.ireturn, 1) := by decide +kernel
theorem dX6_isWithin_0 : decode cX6_isWithin 0 = .ok (.iload_n 0, 1) := by decide +kernel
theorem dX6_isWithin_1 : decode cX6_isWithin 1 = .ok (.iload_n 1, 1) := by decide +kernel
theorem dX6_isWithin_2 : decode cX6_isWithin 2 = .ok (.if_icmp .lt 12, 3) := by decide +kernel
theorem dX6_isWithin_5 : decode cX6_isWithin 5 = .ok (.iload_n 0, 1) := by decide +kernel
theorem dX6_isWithin_6 : decode cX6_isWithin 6 = .ok (.iload_n 2, 1) := by decide +kernel
theorem dX6_isWithin_7 : decode cX6_isWithin 7 = .ok (.if_icmp .gt 7, 3) := by decide +kernel
theorem dX6_isWithin_10 : decode cX6_isWithin 10 = .ok (.iconst 1, 1) := by decide +kernel
theorem dX6_isWithin_11 : decode cX6_isWithin 11 = .ok (.goto 4, 3) := by decide +kernel
theorem dX6_isWithin_14 : decode cX6_isWithin 14 = .ok (.iconst 0, 1) := by decide +kernel
theorem dX6_isWithin_15 : decode cX6_isWithin 15 = .ok (.ireturn, 1) := by decide +kernel
theorem dX6_sum_0 : decode cX6_sum 0 = .ok (.iconst 0, 1) := by decide +kernel
theorem dX6_sum_1 : decode cX6_sum 1 = .ok (.istore_n 1, 1) := by decide +kernel
theorem dX6_sum_2 : decode cX6_sum 2 = .ok (.aload_n 0, 1) := by decide +kernel
theorem dX6_sum_3 : decode cX6_sum 3 = .ok (.astore_n 2, 1) := by decide +kernel
theorem dX6_sum_4 : decode cX6_sum 4 = .ok (.aload_n 2, 1) := by decide +kernel
theorem dX6_sum_5 : decode cX6_sum 5 = .ok (.arraylength, 1) := by decide +kernel
theorem dX6_sum_6 : decode cX6_sum 6 = .ok (.istore_n 3, 1) := by decide +kernel
theorem dX6_sum_7 : decode cX6_sum 7 = .ok (.iconst 0, 1) := by decide +kernel
theorem dX6_sum_8 : decode cX6_sum 8 = .ok (.istore 4, 2) := by decide +kernel
theorem dX6_sum_10 : decode cX6_sum 10 = .ok (.iload 4, 2) := by decide +kernel
theorem dX6_sum_12 : decode cX6_sum 12 = .ok (.iload_n 3, 1) := by decide +kernel
theorem dX6_sum_13 : decode cX6_sum 13 = .ok (.if_icmp .ge 20, 3) := by decide +kernel
theorem dX6_sum_16 : decode cX6_sum 16 = .ok (.aload_n 2, 1) := by decide +kernel
theorem dX6_sum_17 : decode cX6_sum 17 = .ok (.iload 4, 2) := by decide +kernel
theorem dX6_sum_19 : decode cX6_sum 19 = .ok (.iaload, 1) := by decide +kernel
theorem dX6_sum_20 : decode cX6_sum 20 = .ok (.istore 5, 2) := by decide +kernel
theorem dX6_sum_22 : decode cX6_sum 22 = .ok (.iload_n 1, 1) := by decide +kernel
theorem dX6_sum_23 : decode cX6_sum 23 = .ok (.iload 5, 2) := by decide +kernel
theorem dX6_sum_25 : decode cX6_sum 25 = .ok (.iadd, 1) := by decide +kernel
theorem dX6_sum_26 : decode cX6_sum 26 = .ok (.istore_n 1, 1) := by decide +kernel
theorem dX6_sum_27 : decode cX6_sum 27 = .ok (.iinc 4 1, 3) := by decide +kernel
theorem dX6_sum_30 : decode cX6_sum 30 = .ok (.goto (-20), 3) := by decide +kernel
theorem dX6_sum_33 : decode cX6_sum 33 = .ok (.iload_n 1, 1) := by decide +kernel
theorem dX6_sum_34 : decode cX6_sum 34 = .ok (.ireturn, 1) := by decide +kernel
theorem dX6_copyRow_0 : decode cX6_copyRow 0 = .ok (.aload_n 0, 1) := by decide +kernel
theorem dX6_copyRow_1 : decode cX6_copyRow 1 = .ok (.iconst 0, 1) := by decide +kernel
theorem dX6_copyRow_2 : decode cX6_copyRow 2 = .ok (.aload_n 1, 1) := by decide +kernel
theorem dX6_copyRow_3 : decode cX6_copyRow 3 = .ok (.iconst 0, 1) := by decide +kernel
theorem dX6_copyRow_4 : decode cX6_copyRow 4 = .ok (.aload_n 0, 1) := by decide +kernel
theorem dX6_copyRow_5 : decode cX6_copyRow 5 = .ok (.arraylength, 1) := by decide +kernel
theorem dX6_copyRow_6 : decode cX6_copyRow 6 = .ok (.aload_n 1, 1) := by decide +kernel
theorem dX6_copyRow_7 : decode cX6_copyRow 7 = .ok (.arraylength, 1) := by decide +kernel
theorem dX6_copyRow_8 : decode cX6_copyRow 8 = .ok (.invokestatic 151, 3) := by decide +kernel
theorem dX6_copyRow_11 : decode cX6_copyRow 11 = .ok (.invokestatic 279, 3) := by decide +kernel
theorem dX6_copyRow_14 : decode cX6_copyRow 14 = .ok (.return_, 1) := by decide +kernel
theorem dX6_addAll_0 : decode cX6_addAll 0 = .ok (.iconst 0, 1) := by decide +kernel
theorem dX6_addAll_1 : decode cX6_addAll 1 = .ok (.istore_n 2, 1) := by decide +kernel
theorem dX6_addAll_2 : decode cX6_addAll 2 = .ok (.iload_n 2, 1) := by decide +kernel
theorem dX6_addAll_3 : decode cX6_addAll 3 = .ok (.aload_n 0, 1) := by decide +kernel
theorem dX6_addAll_4 : decode cX6_addAll 4 = .ok (.invokevirtual 116, 3) := by decide +kernel
theorem dX6_addAll_7 : decode cX6_addAll 7 = .ok (.if_icmp .ge 22, 3) := by decide +kernel
theorem dX6_addAll_10 : decode cX6_addAll 10 = .ok (.aload_n 1, 1) := by decide +kernel
theorem dX6_addAll_11 : decode cX6_addAll 11 = .ok (.aload_n 0, 1) := by decide +kernel
theorem dX6_addAll_12 : decode cX6_addAll 12 = .ok (.iload_n 2, 1) := by decide +kernel
theorem dX6_addAll_13 : decode cX6_addAll 13 = .ok (.invokevirtual 203, 3) := by decide +kernel
theorem dX6_addAll_16 : decode cX6_addAll 16 = .ok (.checkcast 206, 3) := by decide +kernel
theorem dX6_addAll_19 : decode cX6_addAll 19 = .ok (.invokevirtual 285, 3) := by decide +kernel
theorem dX6_addAll_22 : decode cX6_addAll 22 = .ok (.pop, 1) := by decide +kernel
theorem dX6_addAll_23 : decode cX6_addAll 23 = .ok (.iinc 2 1, 3) := by decide +kernel
theorem dX6_addAll_26 : decode cX6_addAll 26 = .ok (.goto (-24), 3) := by decide +kernel
theorem dX6_addAll_29 : decode cX6_addAll 29 = .ok (.return_, 1) := by decide +kernel
theorem dX7_init_0 : decode cX7_init 0 = .ok (.aload_n 0, 1) := by decide +kernel
theorem dX7_init_1 : decode cX7_init 1 = .ok (.invokespecial 1, 3) := by decide +kernel
theorem dX7_init_4 : decode cX7_init 4 = .ok (.aload_n 0, 1) := by decide +kernel
theorem dX7_init_5 : decode cX7_init 5 = .ok (.sipush 233, 3) := by decide +kernel
theorem dX7_init_8 : decode cX7_init 8 = .ok (.newarray .int, 2) := by decide +kernel
theorem dX7_init_10 : decode cX7_init 10 = .ok (.putfield 7, 3) := by decide +kernel
theorem dX7_init_13 : decode cX7_init 13 = .ok (.aload_n 0, 1) := by decide +kernel
theorem dX7_init_14 : decode cX7_init 14 = .ok (.sipush 1398, 3) := by decide +kernel
theorem dX7_init_17 : decode cX7_init 17 = .ok (.newarray .int, 2) := by decide +kernel
theorem dX7_init_19 : decode cX7_init 19 = .ok (.putfield 13, 3) := by decide +kernel
theorem dX7_init_22 : decode cX7_init 22 = .ok (.aload_n 0, 1) := by decide +kernel
theorem dX7_init_23 : decode cX7_init 23 = .ok (.sipush 233, 3) := by decide +kernel
theorem dX7_init_26 : decode cX7_init 26 = .ok (.newarray .int, 2) := by decide +kernel
theorem dX7_init_28 : decode cX7_init 28 = .ok (.putfield 16, 3) := by decide +kernel
theorem dX7_init_31 : decode cX7_init 31 = .ok (.aload_n 0, 1) := by decide +kernel
theorem dX7_init_32 : decode cX7_init 32 = .ok (.bipush 60, 2) := by decide +kernel
theorem dX7_init_34 : decode cX7_init 34 = .ok (.newarray .int, 2) := by decide +kernel
theorem dX7_init_36 : decode cX7_init 36 = .ok (.putfield 19, 3) := by decide +kernel
theorem dX7_init_39 : decode cX7_init 39 = .ok (.aload_n 0, 1) := by decide +kernel
theorem dX7_init_40 : decode cX7_init 40 = .ok (.bipush 80, 2) := by decide +kernel
theorem dX7_init_42 : decode cX7_init 42 = .ok (.newarray .int, 2) := by decide +kernel
theorem dX7_init_44 : decode cX7_init 44 = .ok (.putfield 22, 3) := by decide +kernel
theorem dX7_init_47 : decode cX7_init 47 = .ok (.aload_n 0, 1) := by decide +kernel
theorem dX7_init_48 : decode cX7_init 48 = .ok (.getfield 7, 3) := by decide +kernel
theorem dX7_init_51 : decode cX7_init 51 = .ok (.sipush 228, 3) := by decide +kernel
theorem dX7_init_54 : decode cX7_init 54 = .ok (.iconst 4, 1) := by decide +kernel
theorem dX7_init_55 : decode cX7_init 55 = .ok (.iastore, 1) := by decide +kernel
theorem dX7_init_56 : decode cX7_init 56 = .ok (.aload_n 0, 1) := by decide +kernel
theorem dX7_init_57 : decode cX7_init 57 = .ok (.getfield 7, 3) := by decide +kernel
theorem dX7_init_60 : decode cX7_init 60 = .ok (.sipush 229, 3) := by decide +kernel
theorem dX7_init_63 : decode cX7_init 63 = .ok (.bipush 12, 2) := by decide +kernel
theorem dX7_init_65 : decode cX7_init 65 = .ok (.iastore, 1) := by decide +kernel
theorem dX7_init_66 : decode cX7_init 66 = .ok (.aload_n 0, 1) := by decide +kernel
theorem dX7_init_67 : decode cX7_init 67 = .ok (.getfield 7, 3) := by decide +kernel
theorem dX7_init_70 : decode cX7_init 70 = .ok (.sipush 230, 3) := by decide +kernel
theorem dX7_init_73 : decode cX7_init 73 = .ok (.iconst 1, 1) := by decide +kernel
theorem dX7_init_74 : decode cX7_init 74 = .ok (.iastore, 1) := by decide +kernel
theorem dX7_init_75 : decode cX7_init 75 = .ok (.aload_n 0, 1) := by decide +kernel
theorem dX7_init_76 : decode cX7_init 76 = .ok (.getfield 7, 3) := by decide +kernel
theorem dX7_init_79 : decode cX7_init 79 = .ok (.sipush 231, 3) := by decide +kernel
theorem dX7_init_82 : decode cX7_init 82 = .ok (.bipush 100, 2) := by decide +kernel
theorem dX7_init_84 : decode cX7_init 84 = .ok (.iastore, 1) := by decide +kernel
theorem dX7_init_85 : decode cX7_init 85 = .ok (.aload_n 0, 1) := by decide +kernel
theorem dX7_init_86 : decode cX7_init 86 = .ok (.getfield 7, 3) := by decide +kernel
theorem dX7_init_89 : decode cX7_init 89 = .ok (.sipush 232, 3) := by decide +kernel
theorem dX7_init_92 : decode cX7_init 92 = .ok (.bipush 8, 2) := by decide +kernel
theorem dX7_init_94 : decode cX7_init 94 = .ok (.iastore, 1) := by decide +kernel
theorem dX7_init_95 : decode cX7_init 95 = .ok (.aload_n 0, 1) := by decide +kernel
theorem dX7_init_96 : decode cX7_init 96 = .ok (.iconst 3, 1) := by decide +kernel
theorem dX7_init_97 : decode cX7_init 97 = .ok (.invokevirtual 25, 3) := by decide +kernel
theorem dX7_init_100 : decode cX7_init 100 = .ok (.return_, 1) := by decide +kernel
theorem dX7_in_0 : decode cX7_in 0 = .ok (.iload_n 0, 1) := by decide +kernel
theorem dX7_in_1 : decode cX7_in 1 = .ok (.iload_n 1, 1) := by decide +kernel
theorem dX7_in_2 : decode cX7_in 2 = .ok (.if_icmp .lt 12, 3) := by decide +kernel
theorem dX7_in_5 : decode cX7_in 5 = .ok (.iload_n 0, 1) := by decide +kernel
theorem dX7_in_6 : decode cX7_in 6 = .ok (.iload_n 2, 1) := by decide +kernel
theorem dX7_in_7 : decode cX7_in 7 = .ok (.if_icmp .gt 7, 3) := by decide +kernel
theorem dX7_in_10 : decode cX7_in 10 = .ok (.iconst 1, 1) := by decide +kernel
theorem dX7_in_11 : decode cX7_in 11 = .ok (.goto 4, 3) := by decide +kernel
theorem dX7_in_14 : decode cX7_in 14 = .ok (.iconst 0, 1) := by decide +kernel
theorem dX7_in_15 : decode cX7_in 15 = .ok (.ireturn, 1) := by decide +kernel
theorem dX7_least_0 : decode cX7_least 0 = .ok (.iload_n 0, 1) := by decide +kernel
theorem dX7_least_1 : decode cX7_least 1 = .ok (.iload_n 1, 1) := by decide +kernel
theorem dX7_least_2 : decode cX7_least 2 = .ok (.if_icmp .ge 7, 3) := by decide +kernel
theorem dX7_least_5 : decode cX7_least 5 = .ok (.iload_n 0, 1) := by decide +kernel
theorem dX7_least_6 : decode cX7_least 6 = .ok (.goto 4, 3) := by decide +kernel
theorem dX7_least_9 : decode cX7_least 9 = .ok (.iload_n 1, 1) := by decide +kernel
theorem dX7_least_10 : decode cX7_least 10 = .ok (.ireturn, 1) := by decide +kernel
theorem dX7_isWagon_0 : decode cX7_isWagon 0 = .ok (.iload_n 1, 1) := by decide +kernel
theorem dX7_isWagon_1 : decode cX7_isWagon 1 = .ok (.iconst 0, 1) := by decide +kernel
theorem dX7_isWagon_2 : decode cX7_isWagon 2 = .ok (.aload_n 0, 1) := by decide +kernel
theorem dX7_isWagon_3 : decode cX7_isWagon 3 = .ok (.getfield 7, 3) := by decide +kernel
theorem dX7_isWagon_6 : decode cX7_isWagon 6 = .ok (.sipush 218, 3) := by decide +kernel
theorem dX7_isWagon_9 : decode cX7_isWagon 9 = .ok (.iaload, 1) := by decide +kernel
theorem dX7_isWagon_10 : decode cX7_isWagon 10 = .ok (.iconst 1, 1) := by decide +kernel
theorem dX7_isWagon_11 : decode cX7_isWagon 11 = .ok (.isub, 1) := by decide +kernel
theorem dX7_isWagon_12 : decode cX7_isWagon 12 = .ok (.invokestatic 29, 3) := by decide +kernel
theorem dX7_isWagon_15 : decode cX7_isWagon 15 = .ok (.ireturn, 1) := by decide +kernel
theorem dX7_isStrip_0 : decode cX7_isStrip 0 = .ok (.iload_n 0, 1) := by decide +kernel
theorem dX7_isStrip_1 : decode cX7_isStrip 1 = .ok (.iconst 0, 1) := by decide +kernel
theorem dX7_isStrip_2 : decode cX7_isStrip 2 = .ok (.iconst 2, 1) := by decide +kernel
theorem dX7_isStrip_3 : decode cX7_isStrip 3 = .ok (.invokestatic 29, 3) := by decide +kernel
theorem dX7_isStrip_6 : decode cX7_isStrip 6 = .ok (.ireturn, 1) := by decide +kernel
theorem dX7_isCell_0 : decode cX7_isCell 0 = .ok (.iload_n 0, 1) := by decide +kernel
theorem dX7_isCell_1 : decode cX7_isCell 1 = .ok (.iconst 0, 1) := by decide +kernel
theorem dX7_isCell_2 : decode cX7_isCell 2 = .ok (.bipush 39, 2) := by decide +kernel
theorem dX7_isCell_4 : decode cX7_isCell 4 = .ok (.invokestatic 29, 3) := by decide +kernel
theorem dX7_isCell_7 : decode cX7_isCell 7 = .ok (.ireturn, 1) := by decide +kernel
theorem dX7_of_0 : decode cX7_of 0 = .ok (.aload_n 0, 1) := by decide +kernel
theorem dX7_of_1 : decode cX7_of 1 = .ok (.getfield 7, 3) := by decide +kernel
theorem dX7_of_4 : decode cX7_of 4 = .ok (.bipush 120, 2) := by decide +kernel
theorem dX7_of_6 : decode cX7_of 6 = .ok (.bipush 8, 2) := by decide +kernel
theorem dX7_of_8 : decode cX7_of 8 = .ok (.iload_n 1, 1) := by decide +kernel
theorem dX7_of_9 : decode cX7_of 9 = .ok (.imul, 1) := by decide +kernel
theorem dX7_of_10 : decode cX7_of 10 = .ok (.iadd, 1) := by decide +kernel
theorem dX7_of_11 : decode cX7_of 11 = .ok (.iload_n 2, 1) := by decide +kernel
theorem dX7_of_12 : decode cX7_of 12 = .ok (.iadd, 1) := by decide +kernel
theorem dX7_of_13 : decode cX7_of 13 = .ok (.iaload, 1) := by decide +kernel
theorem dX7_of_14 : decode cX7_of 14 = .ok (.ireturn, 1) := by decide +kernel
theorem dX7_put_0 : decode cX7_put 0 = .ok (.aload_n 0, 1) := by decide +kernel
theorem dX7_put_1 : decode cX7_put 1 = .ok (.getfield 7, 3) := by decide +kernel
theorem dX7_put_4 : decode cX7_put 4 = .ok (.bipush 120, 2) := by decide +kernel
theorem dX7_put_6 : decode cX7_put 6 = .ok (.bipush 8, 2) := by decide +kernel
theorem dX7_put_8 : decode cX7_put 8 = .ok (.iload_n 1, 1) := by decide +kernel
theorem dX7_put_9 : decode cX7_put 9 = .ok (.imul, 1) := by decide +kernel
theorem dX7_put_10 : decode cX7_put 10 = .ok (.iadd, 1) := by decide +kernel
theorem dX7_put_11 : decode cX7_put 11 = .ok (.iload_n 2, 1) := by decide +kernel
theorem dX7_put_12 : decode cX7_put 12 = .ok (.iadd, 1) := by decide +kernel
theorem dX7_put_13 : decode cX7_put 13 = .ok (.iload_n 3, 1) := by decide +kernel
theorem dX7_put_14 : decode cX7_put 14 = .ok (.iastore, 1) := by decide +kernel
theorem dX7_put_15 : decode cX7_put 15 = .ok (.return_, 1) := by decide +kernel
theorem dX7_couples_0 : decode cX7_couples 0 = .ok (.iconst 0, 1) := by decide +kernel
theorem dX7_couples_1 : decode cX7_couples 1 = .ok (.istore_n 2, 1) := by decide +kernel
theorem dX7_couples_2 : decode cX7_couples 2 = .ok (.iload_n 2, 1) := by decide +kernel
theorem dX7_couples_3 : decode cX7_couples 3 = .ok (.bipush 6, 2) := by decide +kernel
theorem dX7_couples_5 : decode cX7_couples 5 = .ok (.if_icmp .ge 41, 3) := by decide +kernel
theorem dX7_couples_8 : decode cX7_couples 8 = .ok (.iconst 0, 1) := by decide +kernel
theorem dX7_couples_9 : decode cX7_couples 9 = .ok (.istore_n 3, 1) := by decide +kernel
theorem dX7_couples_10 : decode cX7_couples 10 = .ok (.iload_n 3, 1) := by decide +kernel
theorem dX7_couples_11 : decode cX7_couples 11 = .ok (.bipush 8, 2) := by decide +kernel
theorem dX7_couples_13 : decode cX7_couples 13 = .ok (.if_icmp .ge 27, 3) := by decide +kernel
theorem dX7_couples_16 : decode cX7_couples 16 = .ok (.aload_n 0, 1) := by decide +kernel
theorem dX7_couples_17 : decode cX7_couples 17 = .ok (.iload_n 2, 1) := by decide +kernel
theorem dX7_couples_18 : decode cX7_couples 18 = .ok (.iload_n 3, 1) := by decide +kernel
theorem dX7_couples_19 : decode cX7_couples 19 = .ok (.iload_n 3, 1) := by decide +kernel
theorem dX7_couples_20 : decode cX7_couples 20 = .ok (.iconst 5, 1) := by decide +kernel
theorem dX7_couples_21 : decode cX7_couples 21 = .ok (.if_icmp .lt 9, 3) := by decide +kernel
theorem dX7_couples_24 : decode cX7_couples 24 = .ok (.sipush (-1001), 3) := by decide +kernel
theorem dX7_couples_27 : decode cX7_couples 27 = .ok (.goto 4, 3) := by decide +kernel
theorem dX7_couples_30 : decode cX7_couples 30 = .ok (.iconst 0, 1) := by decide +kernel
theorem dX7_couples_31 : decode cX7_couples 31 = .ok (.invokevirtual 33, 3) := by decide +kernel
theorem dX7_couples_34 : decode cX7_couples 34 = .ok (.iinc 3 1, 3) := by decide +kernel
theorem dX7_couples_37 : decode cX7_couples 37 = .ok (.goto (-27), 3) := by decide +kernel
theorem dX7_couples_40 : decode cX7_couples 40 = .ok (.iinc 2 1, 3) := by decide +kernel
theorem dX7_couples_43 : decode cX7_couples 43 = .ok (.goto (-41), 3) := by decide +kernel
theorem dX7_couples_46 : decode cX7_couples 46 = .ok (.aload_n 0, 1) := by decide +kernel
theorem dX7_couples_47 : decode cX7_couples 47 = .ok (.getfield 7, 3) := by decide +kernel
theorem dX7_couples_50 : decode cX7_couples 50 = .ok (.sipush 218, 3) := by decide +kernel
theorem dX7_couples_53 : decode cX7_couples 53 = .ok (.iload_n 1, 1) := by decide +kernel
theorem dX7_couples_54 : decode cX7_couples 54 = .ok (.iastore, 1) := by decide +kernel
theorem dX7_couples_55 : decode cX7_couples 55 = .ok (.aload_n 0, 1) := by decide +kernel
theorem dX7_couples_56 : decode cX7_couples 56 = .ok (.getfield 7, 3) := by decide +kernel
theorem dX7_couples_59 : decode cX7_couples 59 = .ok (.sipush 219, 3) := by decide +kernel
theorem dX7_couples_62 : decode cX7_couples 62 = .ok (.iconst (-1), 1) := by decide +kernel
theorem dX7_couples_63 : decode cX7_couples 63 = .ok (.iastore, 1) := by decide +kernel
theorem dX7_couples_64 : decode cX7_couples 64 = .ok (.aload_n 0, 1) := by decide +kernel
theorem dX7_couples_65 : decode cX7_couples 65 = .ok (.getfield 7, 3) := by decide +kernel
theorem dX7_couples_68 : decode cX7_couples 68 = .ok (.sipush 220, 3) := by decide +kernel
theorem dX7_couples_71 : decode cX7_couples 71 = .ok (.iconst 0, 1) := by decide +kernel
theorem dX7_couples_72 : decode cX7_couples 72 = .ok (.iastore, 1) := by decide +kernel
theorem dX7_couples_73 : decode cX7_couples 73 = .ok (.aload_n 0, 1) := by decide +kernel
theorem dX7_couples_74 : decode cX7_couples 74 = .ok (.getfield 7, 3) := by decide +kernel
theorem dX7_couples_77 : decode cX7_couples 77 = .ok (.sipush 221, 3) := by decide +kernel
theorem dX7_couples_80 : decode cX7_couples 80 = .ok (.iconst 0, 1) := by decide +kernel
theorem dX7_couples_81 : decode cX7_couples 81 = .ok (.iastore, 1) := by decide +kernel
theorem dX7_couples_82 : decode cX7_couples 82 = .ok (.return_, 1) := by decide +kernel
theorem dX7_keeps_0 : decode cX7_keeps 0 = .ok (.aload_n 0, 1) := by decide +kernel
theorem dX7_keeps_1 : decode cX7_keeps 1 = .ok (.getfield 37, 3) := by decide +kernel
theorem dX7_keeps_4 : decode cX7_keeps 4 = .ok (.bipush 6, 2) := by decide +kernel
theorem dX7_keeps_6 : decode cX7_keeps 6 = .ok (.if_icmp .ne 44, 3) := by decide +kernel
theorem dX7_keeps_9 : decode cX7_keeps 9 = .ok (.iconst 0, 1) := by decide +kernel
theorem dX7_keeps_10 : decode cX7_keeps 10 = .ok (.istore_n 1, 1) := by decide +kernel
theorem dX7_keeps_11 : decode cX7_keeps 11 = .ok (.iload_n 1, 1) := by decide +kernel
theorem dX7_keeps_12 : decode cX7_keeps 12 = .ok (.sipush 1165, 3) := by decide +kernel
theorem dX7_keeps_15 : decode cX7_keeps 15 = .ok (.if_icmp .ge 25, 3) := by decide +kernel
theorem dX7_keeps_18 : decode cX7_keeps 18 = .ok (.aload_n 0, 1) := by decide +kernel
theorem dX7_keeps_19 : decode cX7_keeps 19 = .ok (.getfield 13, 3) := by decide +kernel
theorem dX7_keeps_22 : decode cX7_keeps 22 = .ok (.iload_n 1, 1) := by decide +kernel
theorem dX7_keeps_23 : decode cX7_keeps 23 = .ok (.aload_n 0, 1) := by decide +kernel
theorem dX7_keeps_24 : decode cX7_keeps 24 = .ok (.getfield 13, 3) := by decide +kernel
theorem dX7_keeps_27 : decode cX7_keeps 27 = .ok (.iload_n 1, 1) := by decide +kernel
theorem dX7_keeps_28 : decode cX7_keeps 28 = .ok (.sipush 233, 3) := by decide +kernel
theorem dX7_keeps_31 : decode cX7_keeps 31 = .ok (.iadd, 1) := by decide +kernel
theorem dX7_keeps_32 : decode cX7_keeps 32 = .ok (.iaload, 1) := by decide +kernel
theorem dX7_keeps_33 : decode cX7_keeps 33 = .ok (.iastore, 1) := by decide +kernel
theorem dX7_keeps_34 : decode cX7_keeps 34 = .ok (.iinc 1 1, 3) := by decide +kernel
theorem dX7_keeps_37 : decode cX7_keeps 37 = .ok (.goto (-26), 3) := by decide +kernel
theorem dX7_keeps_40 : decode cX7_keeps 40 = .ok (.aload_n 0, 1) := by decide +kernel
theorem dX7_keeps_41 : decode cX7_keeps 41 = .ok (.dup, 1) := by decide +kernel
theorem dX7_keeps_42 : decode cX7_keeps 42 = .ok (.getfield 37, 3) := by decide +kernel
theorem dX7_keeps_45 : decode cX7_keeps 45 = .ok (.iconst 1, 1) := by decide +kernel
theorem dX7_keeps_46 : decode cX7_keeps 46 = .ok (.isub, 1) := by decide +kernel
theorem dX7_keeps_47 : decode cX7_keeps 47 = .ok (.putfield 37, 3) := by decide +kernel
theorem dX7_keeps_50 : decode cX7_keeps 50 = .ok (.iconst 0, 1) := by decide +kernel
theorem dX7_keeps_51 : decode cX7_keeps 51 = .ok (.istore_n 1, 1) := by decide +kernel
theorem dX7_keeps_52 : decode cX7_keeps 52 = .ok (.iload_n 1, 1) := by decide +kernel
theorem dX7_keeps_53 : decode cX7_keeps 53 = .ok (.sipush 233, 3) := by decide +kernel
theorem dX7_keeps_56 : decode cX7_keeps 56 = .ok (.if_icmp .ge 30, 3) := by decide +kernel
theorem dX7_keeps_59 : decode cX7_keeps 59 = .ok (.aload_n 0, 1) := by decide +kernel
theorem dX7_keeps_60 : decode cX7_keeps 60 = .ok (.getfield 13, 3) := by decide +kernel
theorem dX7_keeps_63 : decode cX7_keeps 63 = .ok (.sipush 233, 3) := by decide +kernel
theorem dX7_keeps_66 : decode cX7_keeps 66 = .ok (.aload_n 0, 1) := by decide +kernel
theorem dX7_keeps_67 : decode cX7_keeps 67 = .ok (.getfield 37, 3) := by decide +kernel
theorem dX7_keeps_70 : decode cX7_keeps 70 = .ok (.imul, 1) := by decide +kernel
theorem dX7_keeps_71 : decode cX7_keeps 71 = .ok (.iload_n 1, 1) := by decide +kernel
theorem dX7_keeps_72 : decode cX7_keeps 72 = .ok (.iadd, 1) := by decide +kernel
theorem dX7_keeps_73 : decode cX7_keeps 73 = .ok (.aload_n 0, 1) := by decide +kernel
theorem dX7_keeps_74 : decode cX7_keeps 74 = .ok (.getfield 7, 3) := by decide +kernel
theorem dX7_keeps_77 : decode cX7_keeps 77 = .ok (.iload_n 1, 1) := by decide +kernel
theorem dX7_keeps_78 : decode cX7_keeps 78 = .ok (.iaload, 1) := by decide +kernel
theorem dX7_keeps_79 : decode cX7_keeps 79 = .ok (.iastore, 1) := by decide +kernel
theorem dX7_keeps_80 : decode cX7_keeps 80 = .ok (.iinc 1 1, 3) := by decide +kernel
theorem dX7_keeps_83 : decode cX7_keeps 83 = .ok (.goto (-31), 3) := by decide +kernel
theorem dX7_keeps_86 : decode cX7_keeps 86 = .ok (.aload_n 0, 1) := by decide +kernel
theorem dX7_keeps_87 : decode cX7_keeps 87 = .ok (.dup, 1) := by decide +kernel
theorem dX7_keeps_88 : decode cX7_keeps 88 = .ok (.getfield 37, 3) := by decide +kernel
theorem dX7_keeps_91 : decode cX7_keeps 91 = .ok (.iconst 1, 1) := by decide +kernel
theorem dX7_keeps_92 : decode cX7_keeps 92 = .ok (.iadd, 1) := by decide +kernel
theorem dX7_keeps_93 : decode cX7_keeps 93 = .ok (.putfield 37, 3) := by decide +kernel
theorem dX7_keeps_96 : decode cX7_keeps 96 = .ok (.return_, 1) := by decide +kernel
theorem dX7_undo_0 : decode cX7_undo 0 = .ok (.aload_n 0, 1) := by decide +kernel
theorem dX7_undo_1 : decode cX7_undo 1 = .ok (.getfield 37, 3) := by decide +kernel
theorem dX7_undo_4 : decode cX7_undo 4 = .ok (.ifCond .ne 7, 3) := by decide +kernel
theorem dX7_undo_7 : decode cX7_undo 7 = .ok (.sipush (-1003), 3) := by decide +kernel
theorem dX7_undo_10 : decode cX7_undo 10 = .ok (.ireturn, 1) := by decide +kernel
theorem dX7_undo_11 : decode cX7_undo 11 = .ok (.aload_n 0, 1) := by decide +kernel
theorem dX7_undo_12 : decode cX7_undo 12 = .ok (.dup, 1) := by decide +kernel
theorem dX7_undo_13 : decode cX7_undo 13 = .ok (.getfield 37, 3) := by decide +kernel
theorem dX7_undo_16 : decode cX7_undo 16 = .ok (.iconst 1, 1) := by decide +kernel
theorem dX7_undo_17 : decode cX7_undo 17 = .ok (.isub, 1) := by decide +kernel
theorem dX7_undo_18 : decode cX7_undo 18 = .ok (.putfield 37, 3) := by decide +kernel
theorem dX7_undo_21 : decode cX7_undo 21 = .ok (.iconst 0, 1) := by decide +kernel
theorem dX7_undo_22 : decode cX7_undo 22 = .ok (.istore_n 1, 1) := by decide +kernel
theorem dX7_undo_23 : decode cX7_undo 23 = .ok (.iload_n 1, 1) := by decide +kernel
theorem dX7_undo_24 : decode cX7_undo 24 = .ok (.sipush 233, 3) := by decide +kernel
theorem dX7_undo_27 : decode cX7_undo 27 = .ok (.if_icmp .ge 30, 3) := by decide +kernel
theorem dX7_undo_30 : decode cX7_undo 30 = .ok (.aload_n 0, 1) := by decide +kernel
theorem dX7_undo_31 : decode cX7_undo 31 = .ok (.getfield 7, 3) := by decide +kernel
theorem dX7_undo_34 : decode cX7_undo 34 = .ok (.iload_n 1, 1) := by decide +kernel
theorem dX7_undo_35 : decode cX7_undo 35 = .ok (.aload_n 0, 1) := by decide +kernel
theorem dX7_undo_36 : decode cX7_undo 36 = .ok (.getfield 13, 3) := by decide +kernel
theorem dX7_undo_39 : decode cX7_undo 39 = .ok (.sipush 233, 3) := by decide +kernel
theorem dX7_undo_42 : decode cX7_undo 42 = .ok (.aload_n 0, 1) := by decide +kernel
theorem dX7_undo_43 : decode cX7_undo 43 = .ok (.getfield 37, 3) := by decide +kernel
theorem dX7_undo_46 : decode cX7_undo 46 = .ok (.imul, 1) := by decide +kernel
theorem dX7_undo_47 : decode cX7_undo 47 = .ok (.iload_n 1, 1) := by decide +kernel
theorem dX7_undo_48 : decode cX7_undo 48 = .ok (.iadd, 1) := by decide +kernel
theorem dX7_undo_49 : decode cX7_undo 49 = .ok (.iaload, 1) := by decide +kernel
theorem dX7_undo_50 : decode cX7_undo 50 = .ok (.iastore, 1) := by decide +kernel
theorem dX7_undo_51 : decode cX7_undo 51 = .ok (.iinc 1 1, 3) := by decide +kernel
theorem dX7_undo_54 : decode cX7_undo 54 = .ok (.goto (-31), 3) := by decide +kernel
theorem dX7_undo_57 : decode cX7_undo 57 = .ok (.aload_n 0, 1) := by decide +kernel
theorem dX7_undo_58 : decode cX7_undo 58 = .ok (.getfield 37, 3) := by decide +kernel
theorem dX7_undo_61 : decode cX7_undo 61 = .ok (.ireturn, 1) := by decide +kernel
theorem dX7_keepsAside_0 : decode cX7_keepsAside 0 = .ok (.iconst 0, 1) := by decide +kernel
theorem dX7_keepsAside_1 : decode cX7_keepsAside 1 = .ok (.istore_n 1, 1) := by decide +kernel
theorem dX7_keepsAside_2 : decode cX7_keepsAside 2 = .ok (.iload_n 1, 1) := by decide +kernel
theorem dX7_keepsAside_3 : decode cX7_keepsAside 3 = .ok (.sipush 233, 3) := by decide +kernel
theorem dX7_keepsAside_6 : decode cX7_keepsAside 6 = .ok (.if_icmp .ge 21, 3) := by decide +kernel
theorem dX7_keepsAside_9 : decode cX7_keepsAside 9 = .ok (.aload_n 0, 1) := by decide +kernel
theorem dX7_keepsAside_10 : decode cX7_keepsAside 10 = .ok (.getfield 16, 3) := by decide +kernel
theorem dX7_keepsAside_13 : decode cX7_keepsAside 13 = .ok (.iload_n 1, 1) := by decide +kernel
theorem dX7_keepsAside_14 : decode cX7_keepsAside 14 = .ok (.aload_n 0, 1) := by decide +kernel
theorem dX7_keepsAside_15 : decode cX7_keepsAside 15 = .ok (.getfield 7, 3) := by decide +kernel
theorem dX7_keepsAside_18 : decode cX7_keepsAside 18 = .ok (.iload_n 1, 1) := by decide +kernel
theorem dX7_keepsAside_19 : decode cX7_keepsAside 19 = .ok (.iaload, 1) := by decide +kernel
theorem dX7_keepsAside_20 : decode cX7_keepsAside 20 = .ok (.iastore, 1) := by decide +kernel
theorem dX7_keepsAside_21 : decode cX7_keepsAside 21 = .ok (.iinc 1 1, 3) := by decide +kernel
theorem dX7_keepsAside_24 : decode cX7_keepsAside 24 = .ok (.goto (-22), 3) := by decide +kernel
theorem dX7_keepsAside_27 : decode cX7_keepsAside 27 = .ok (.return_, 1) := by decide +kernel
theorem dX7_returns_0 : decode cX7_returns 0 = .ok (.iconst 0, 1) := by decide +kernel
theorem dX7_returns_1 : decode cX7_returns 1 = .ok (.istore_n 1, 1) := by decide +kernel
theorem dX7_returns_2 : decode cX7_returns 2 = .ok (.iload_n 1, 1) := by decide +kernel
theorem dX7_returns_3 : decode cX7_returns 3 = .ok (.sipush 233, 3) := by decide +kernel
theorem dX7_returns_6 : decode cX7_returns 6 = .ok (.if_icmp .ge 21, 3) := by decide +kernel
theorem dX7_returns_9 : decode cX7_returns 9 = .ok (.aload_n 0, 1) := by decide +kernel
theorem dX7_returns_10 : decode cX7_returns 10 = .ok (.getfield 7, 3) := by decide +kernel
theorem dX7_returns_13 : decode cX7_returns 13 = .ok (.iload_n 1, 1) := by decide +kernel
theorem dX7_returns_14 : decode cX7_returns 14 = .ok (.aload_n 0, 1) := by decide +kernel
theorem dX7_returns_15 : decode cX7_returns 15 = .ok (.getfield 16, 3) := by decide +kernel
theorem dX7_returns_18 : decode cX7_returns 18 = .ok (.iload_n 1, 1) := by decide +kernel
theorem dX7_returns_19 : decode cX7_returns 19 = .ok (.iaload, 1) := by decide +kernel
theorem dX7_returns_20 : decode cX7_returns 20 = .ok (.iastore, 1) := by decide +kernel
theorem dX7_returns_21 : decode cX7_returns 21 = .ok (.iinc 1 1, 3) := by decide +kernel
theorem dX7_returns_24 : decode cX7_returns 24 = .ok (.goto (-22), 3) := by decide +kernel
theorem dX7_returns_27 : decode cX7_returns 27 = .ok (.return_, 1) := by decide +kernel
theorem dX7_type_0 : decode cX7_type 0 = .ok (.iload_n 1, 1) := by decide +kernel
theorem dX7_type_1 : decode cX7_type 1 = .ok (.iconst 0, 1) := by decide +kernel
theorem dX7_type_2 : decode cX7_type 2 = .ok (.bipush 127, 2) := by decide +kernel
theorem dX7_type_4 : decode cX7_type 4 = .ok (.invokestatic 29, 3) := by decide +kernel
theorem dX7_type_7 : decode cX7_type 7 = .ok (.ifCond .ne 7, 3) := by decide +kernel
theorem dX7_type_10 : decode cX7_type 10 = .ok (.sipush (-1002), 3) := by decide +kernel
theorem dX7_type_13 : decode cX7_type 13 = .ok (.ireturn, 1) := by decide +kernel
theorem dX7_type_14 : decode cX7_type 14 = .ok (.aload_n 0, 1) := by decide +kernel
theorem dX7_type_15 : decode cX7_type 15 = .ok (.getfield 41, 3) := by decide +kernel
theorem dX7_type_18 : decode cX7_type 18 = .ok (.bipush 60, 2) := by decide +kernel
theorem dX7_type_20 : decode cX7_type 20 = .ok (.if_icmp .ne 7, 3) := by decide +kernel
theorem dX7_type_23 : decode cX7_type 23 = .ok (.sipush (-1004), 3) := by decide +kernel
theorem dX7_type_26 : decode cX7_type 26 = .ok (.ireturn, 1) := by decide +kernel
theorem dX7_type_27 : decode cX7_type 27 = .ok (.aload_n 0, 1) := by decide +kernel
theorem dX7_type_28 : decode cX7_type 28 = .ok (.getfield 19, 3) := by decide +kernel
theorem dX7_type_31 : decode cX7_type 31 = .ok (.aload_n 0, 1) := by decide +kernel
theorem dX7_type_32 : decode cX7_type 32 = .ok (.getfield 41, 3) := by decide +kernel
theorem dX7_type_35 : decode cX7_type 35 = .ok (.iload_n 1, 1) := by decide +kernel
theorem dX7_type_36 : decode cX7_type 36 = .ok (.iastore, 1) := by decide +kernel
theorem dX7_type_37 : decode cX7_type 37 = .ok (.aload_n 0, 1) := by decide +kernel
theorem dX7_type_38 : decode cX7_type 38 = .ok (.dup, 1) := by decide +kernel
theorem dX7_type_39 : decode cX7_type 39 = .ok (.getfield 41, 3) := by decide +kernel
theorem dX7_type_42 : decode cX7_type 42 = .ok (.iconst 1, 1) := by decide +kernel
theorem dX7_type_43 : decode cX7_type 43 = .ok (.iadd, 1) := by decide +kernel
theorem dX7_type_44 : decode cX7_type 44 = .ok (.putfield 41, 3) := by decide +kernel
theorem dX7_type_47 : decode cX7_type 47 = .ok (.aload_n 0, 1) := by decide +kernel
theorem dX7_type_48 : decode cX7_type 48 = .ok (.getfield 41, 3) := by decide +kernel
theorem dX7_type_51 : decode cX7_type 51 = .ok (.ireturn, 1) := by decide +kernel
theorem dX7_clearText_0 : decode cX7_clearText 0 = .ok (.aload_n 0, 1) := by decide +kernel
theorem dX7_clearText_1 : decode cX7_clearText 1 = .ok (.getfield 41, 3) := by decide +kernel
theorem dX7_clearText_4 : decode cX7_clearText 4 = .ok (.istore_n 1, 1) := by decide +kernel
theorem dX7_clearText_5 : decode cX7_clearText 5 = .ok (.aload_n 0, 1) := by decide +kernel
theorem dX7_clearText_6 : decode cX7_clearText 6 = .ok (.iconst 0, 1) := by decide +kernel
theorem dX7_clearText_7 : decode cX7_clearText 7 = .ok (.putfield 41, 3) := by decide +kernel
theorem dX7_clearText_10 : decode cX7_clearText 10 = .ok (.iload_n 1, 1) := by decide +kernel
theorem dX7_clearText_11 : decode cX7_clearText 11 = .ok (.ireturn, 1) := by decide +kernel
theorem dX7_next_0 : decode cX7_next 0 = .ok (.aload_n 0, 1) := by decide +kernel
theorem dX7_next_1 : decode cX7_next 1 = .ok (.getfield 44, 3) := by decide +kernel
theorem dX7_next_4 : decode cX7_next 4 = .ok (.aload_n 0, 1) := by decide +kernel
theorem dX7_next_5 : decode cX7_next 5 = .ok (.getfield 41, 3) := by decide +kernel
theorem dX7_next_8 : decode cX7_next 8 = .ok (.if_icmp .ge 15, 3) := by decide +kernel
theorem dX7_next_11 : decode cX7_next 11 = .ok (.aload_n 0, 1) := by decide +kernel
theorem dX7_next_12 : decode cX7_next 12 = .ok (.getfield 19, 3) := by decide +kernel
theorem dX7_next_15 : decode cX7_next 15 = .ok (.aload_n 0, 1) := by decide +kernel
theorem dX7_next_16 : decode cX7_next 16 = .ok (.getfield 44, 3) := by decide +kernel
theorem dX7_next_19 : decode cX7_next 19 = .ok (.iaload, 1) := by decide +kernel
theorem dX7_next_20 : decode cX7_next 20 = .ok (.goto 4, 3) := by decide +kernel
theorem dX7_next_23 : decode cX7_next 23 = .ok (.iconst (-1), 1) := by decide +kernel
theorem dX7_next_24 : decode cX7_next 24 = .ok (.ireturn, 1) := by decide +kernel
theorem dX7_isDigit_0 : decode cX7_isDigit 0 = .ok (.aload_n 0, 1) := by decide +kernel
theorem dX7_isDigit_1 : decode cX7_isDigit 1 = .ok (.invokevirtual 47, 3) := by decide +kernel
theorem dX7_isDigit_4 : decode cX7_isDigit 4 = .ok (.bipush 48, 2) := by decide +kernel
theorem dX7_isDigit_6 : decode cX7_isDigit 6 = .ok (.bipush 57, 2) := by decide +kernel
theorem dX7_isDigit_8 : decode cX7_isDigit 8 = .ok (.invokestatic 29, 3) := by decide +kernel
theorem dX7_isDigit_11 : decode cX7_isDigit 11 = .ok (.ireturn, 1) := by decide +kernel
theorem dX7_blanks_0 : decode cX7_blanks 0 = .ok (.aload_n 0, 1) := by decide +kernel
theorem dX7_blanks_1 : decode cX7_blanks 1 = .ok (.invokevirtual 47, 3) := by decide +kernel
theorem dX7_blanks_4 : decode cX7_blanks 4 = .ok (.bipush 32, 2) := by decide +kernel
theorem dX7_blanks_6 : decode cX7_blanks 6 = .ok (.if_icmp .ne 16, 3) := by decide +kernel
theorem dX7_blanks_9 : decode cX7_blanks 9 = .ok (.aload_n 0, 1) := by decide +kernel
theorem dX7_blanks_10 : decode cX7_blanks 10 = .ok (.dup, 1) := by decide +kernel
theorem dX7_blanks_11 : decode cX7_blanks 11 = .ok (.getfield 44, 3) := by decide +kernel
theorem dX7_blanks_14 : decode cX7_blanks 14 = .ok (.iconst 1, 1) := by decide +kernel
theorem dX7_blanks_15 : decode cX7_blanks 15 = .ok (.iadd, 1) := by decide +kernel
theorem dX7_blanks_16 : decode cX7_blanks 16 = .ok (.putfield 44, 3) := by decide +kernel
theorem dX7_blanks_19 : decode cX7_blanks 19 = .ok (.goto (-19), 3) := by decide +kernel
theorem dX7_blanks_22 : decode cX7_blanks 22 = .ok (.return_, 1) := by decide +kernel
theorem dX7_fails_0 : decode cX7_fails 0 = .ok (.aload_n 0, 1) := by decide +kernel
theorem dX7_fails_1 : decode cX7_fails 1 = .ok (.aload_n 0, 1) := by decide +kernel
theorem dX7_fails_2 : decode cX7_fails 2 = .ok (.getfield 51, 3) := by decide +kernel
theorem dX7_fails_5 : decode cX7_fails 5 = .ok (.sipush (-1001), 3) := by decide +kernel
theorem dX7_fails_8 : decode cX7_fails 8 = .ok (.if_icmp .ne 7, 3) := by decide +kernel
theorem dX7_fails_11 : decode cX7_fails 11 = .ok (.iload_n 1, 1) := by decide +kernel
theorem dX7_fails_12 : decode cX7_fails 12 = .ok (.goto 7, 3) := by decide +kernel
theorem dX7_fails_15 : decode cX7_fails 15 = .ok (.aload_n 0, 1) := by decide +kernel
theorem dX7_fails_16 : decode cX7_fails 16 = .ok (.getfield 51, 3) := by decide +kernel
theorem dX7_fails_19 : decode cX7_fails 19 = .ok (.putfield 51, 3) := by decide +kernel
theorem dX7_fails_22 : decode cX7_fails 22 = .ok (.return_, 1) := by decide +kernel
theorem dX7_needs_0 : decode cX7_needs 0 = .ok (.aload_n 0, 1) := by decide +kernel
theorem dX7_needs_1 : decode cX7_needs 1 = .ok (.getfield 51, 3) := by decide +kernel
theorem dX7_needs_4 : decode cX7_needs 4 = .ok (.sipush (-1001), 3) := by decide +kernel
theorem dX7_needs_7 : decode cX7_needs 7 = .ok (.if_icmp .ne 24, 3) := by decide +kernel
theorem dX7_needs_10 : decode cX7_needs 10 = .ok (.iload_n 1, 1) := by decide +kernel
theorem dX7_needs_11 : decode cX7_needs 11 = .ok (.ifCond .eq 20, 3) := by decide +kernel
theorem dX7_needs_14 : decode cX7_needs 14 = .ok (.aload_n 0, 1) := by decide +kernel
theorem dX7_needs_15 : decode cX7_needs 15 = .ok (.dup, 1) := by decide +kernel
theorem dX7_needs_16 : decode cX7_needs 16 = .ok (.getfield 44, 3) := by decide +kernel
theorem dX7_needs_19 : decode cX7_needs 19 = .ok (.iconst 1, 1) := by decide +kernel
theorem dX7_needs_20 : decode cX7_needs 20 = .ok (.iadd, 1) := by decide +kernel
theorem dX7_needs_21 : decode cX7_needs 21 = .ok (.putfield 44, 3) := by decide +kernel
theorem dX7_needs_24 : decode cX7_needs 24 = .ok (.aload_n 0, 1) := by decide +kernel
theorem dX7_needs_25 : decode cX7_needs 25 = .ok (.invokevirtual 54, 3) := by decide +kernel
theorem dX7_needs_28 : decode cX7_needs 28 = .ok (.goto 11, 3) := by decide +kernel
theorem dX7_needs_31 : decode cX7_needs 31 = .ok (.aload_n 0, 1) := by decide +kernel
theorem dX7_needs_32 : decode cX7_needs 32 = .ok (.aload_n 0, 1) := by decide +kernel
theorem dX7_needs_33 : decode cX7_needs 33 = .ok (.getfield 44, 3) := by decide +kernel
theorem dX7_needs_36 : decode cX7_needs 36 = .ok (.invokevirtual 57, 3) := by decide +kernel
theorem dX7_needs_39 : decode cX7_needs 39 = .ok (.return_, 1) := by decide +kernel
theorem dX7_digit_0 : decode cX7_digit 0 = .ok (.aload_n 0, 1) := by decide +kernel
theorem dX7_digit_1 : decode cX7_digit 1 = .ok (.invokevirtual 47, 3) := by decide +kernel
theorem dX7_digit_4 : decode cX7_digit 4 = .ok (.bipush 48, 2) := by decide +kernel
theorem dX7_digit_6 : decode cX7_digit 6 = .ok (.isub, 1) := by decide +kernel
theorem dX7_digit_7 : decode cX7_digit 7 = .ok (.istore_n 3, 1) := by decide +kernel
theorem dX7_digit_8 : decode cX7_digit 8 = .ok (.aload_n 0, 1) := by decide +kernel
theorem dX7_digit_9 : decode cX7_digit 9 = .ok (.iload_n 3, 1) := by decide +kernel
theorem dX7_digit_10 : decode cX7_digit 10 = .ok (.iload_n 1, 1) := by decide +kernel
theorem dX7_digit_11 : decode cX7_digit 11 = .ok (.iload_n 2, 1) := by decide +kernel
theorem dX7_digit_12 : decode cX7_digit 12 = .ok (.invokestatic 29, 3) := by decide +kernel
theorem dX7_digit_15 : decode cX7_digit 15 = .ok (.invokevirtual 60, 3) := by decide +kernel
theorem dX7_digit_18 : decode cX7_digit 18 = .ok (.iload_n 3, 1) := by decide +kernel
theorem dX7_digit_19 : decode cX7_digit 19 = .ok (.ireturn, 1) := by decide +kernel
theorem dX7_doorAt_0 : decode cX7_doorAt 0 = .ok (.aload_n 0, 1) := by decide +kernel
theorem dX7_doorAt_1 : decode cX7_doorAt 1 = .ok (.invokevirtual 47, 3) := by decide +kernel
theorem dX7_doorAt_4 : decode cX7_doorAt 4 = .ok (.istore_n 1, 1) := by decide +kernel
theorem dX7_doorAt_5 : decode cX7_doorAt 5 = .ok (.aload_n 0, 1) := by decide +kernel
theorem dX7_doorAt_6 : decode cX7_doorAt 6 = .ok (.iload_n 1, 1) := by decide +kernel
theorem dX7_doorAt_7 : decode cX7_doorAt 7 = .ok (.bipush 108, 2) := by decide +kernel
theorem dX7_doorAt_9 : decode cX7_doorAt 9 = .ok (.if_icmp .eq 15, 3) := by decide +kernel
theorem dX7_doorAt_12 : decode cX7_doorAt 12 = .ok (.iload_n 1, 1) := by decide +kernel
theorem dX7_doorAt_13 : decode cX7_doorAt 13 = .ok (.bipush 109, 2) := by decide +kernel
theorem dX7_doorAt_15 : decode cX7_doorAt 15 = .ok (.if_icmp .eq 9, 3) := by decide +kernel
theorem dX7_doorAt_18 : decode cX7_doorAt 18 = .ok (.iload_n 1, 1) := by decide +kernel
theorem dX7_doorAt_19 : decode cX7_doorAt 19 = .ok (.bipush 114, 2) := by decide +kernel
theorem dX7_doorAt_21 : decode cX7_doorAt 21 = .ok (.if_icmp .ne 7, 3) := by decide +kernel
theorem dX7_doorAt_24 : decode cX7_doorAt 24 = .ok (.iconst 1, 1) := by decide +kernel
theorem dX7_doorAt_25 : decode cX7_doorAt 25 = .ok (.goto 4, 3) := by decide +kernel
theorem dX7_doorAt_28 : decode cX7_doorAt 28 = .ok (.iconst 0, 1) := by decide +kernel
theorem dX7_doorAt_29 : decode cX7_doorAt 29 = .ok (.invokevirtual 60, 3) := by decide +kernel
theorem dX7_doorAt_32 : decode cX7_doorAt 32 = .ok (.iload_n 1, 1) := by decide +kernel
theorem dX7_doorAt_33 : decode cX7_doorAt 33 = .ok (.bipush 108, 2) := by decide +kernel
theorem dX7_doorAt_35 : decode cX7_doorAt 35 = .ok (.if_icmp .ne 7, 3) := by decide +kernel
theorem dX7_doorAt_38 : decode cX7_doorAt 38 = .ok (.iconst 0, 1) := by decide +kernel
theorem dX7_doorAt_39 : decode cX7_doorAt 39 = .ok (.goto 14, 3) := by decide +kernel
theorem dX7_doorAt_42 : decode cX7_doorAt 42 = .ok (.iload_n 1, 1) := by decide +kernel
theorem dX7_doorAt_43 : decode cX7_doorAt 43 = .ok (.bipush 109, 2) := by decide +kernel
theorem dX7_doorAt_45 : decode cX7_doorAt 45 = .ok (.if_icmp .ne 7, 3) := by decide +kernel
theorem dX7_doorAt_48 : decode cX7_doorAt 48 = .ok (.iconst 1, 1) := by decide +kernel
theorem dX7_doorAt_49 : decode cX7_doorAt 49 = .ok (.goto 4, 3) := by decide +kernel
theorem dX7_doorAt_52 : decode cX7_doorAt 52 = .ok (.iconst 2, 1) := by decide +kernel
theorem dX7_doorAt_53 : decode cX7_doorAt 53 = .ok (.ireturn, 1) := by decide +kernel
theorem dX7_cell_0 : decode cX7_cell 0 = .ok (.aload_n 0, 1) := by decide +kernel
theorem dX7_cell_1 : decode cX7_cell 1 = .ok (.getfield 44, 3) := by decide +kernel
theorem dX7_cell_4 : decode cX7_cell 4 = .ok (.istore_n 1, 1) := by decide +kernel
theorem dX7_cell_5 : decode cX7_cell 5 = .ok (.iconst 0, 1) := by decide +kernel
theorem dX7_cell_6 : decode cX7_cell 6 = .ok (.istore_n 2, 1) := by decide +kernel
theorem dX7_cell_7 : decode cX7_cell 7 = .ok (.aload_n 0, 1) := by decide +kernel
theorem dX7_cell_8 : decode cX7_cell 8 = .ok (.getfield 51, 3) := by decide +kernel
theorem dX7_cell_11 : decode cX7_cell 11 = .ok (.sipush (-1001), 3) := by decide +kernel
theorem dX7_cell_14 : decode cX7_cell 14 = .ok (.if_icmp .ne 46, 3) := by decide +kernel

theorem dX5_move_45 : decode cX5_move 45 = .ok (.aload_n 0, 1) := by decide +kernel
theorem dX5_move_46 : decode cX5_move 46 = .ok (.aload_n 0, 1) := by decide +kernel
theorem dX5_move_47 : decode cX5_move 47 = .ok (.getfield 15, 3) := by decide +kernel
theorem dX5_move_50 : decode cX5_move 50 = .ok (.aload_n 0, 1) := by decide +kernel
theorem dX5_move_51 : decode cX5_move 51 = .ok (.getfield 18, 3) := by decide +kernel
theorem dX5_move_54 : decode cX5_move 54 = .ok (.iadd, 1) := by decide +kernel
theorem dX5_move_55 : decode cX5_move 55 = .ok (.bipush 99, 2) := by decide +kernel
theorem dX5_move_57 : decode cX5_move 57 = .ok (.invokestatic 62, 3) := by decide +kernel
theorem dX5_move_60 : decode cX5_move 60 = .ok (.putfield 15, 3) := by decide +kernel
theorem dX5_move_63 : decode cX5_move 63 = .ok (.return_, 1) := by decide +kernel
theorem dX5_drop_0 : decode cX5_drop 0 = .ok (.aload_n 0, 1) := by decide +kernel
theorem dX5_drop_1 : decode cX5_drop 1 = .ok (.iload_n 1, 1) := by decide +kernel
theorem dX5_drop_2 : decode cX5_drop 2 = .ok (.iload_n 2, 1) := by decide +kernel
theorem dX5_drop_3 : decode cX5_drop 3 = .ok (.invokevirtual 47, 3) := by decide +kernel
theorem dX5_drop_6 : decode cX5_drop 6 = .ok (.ifCond .ne 5, 3) := by decide +kernel
theorem dX5_drop_9 : decode cX5_drop 9 = .ok (.iconst 0, 1) := by decide +kernel
theorem dX5_drop_10 : decode cX5_drop 10 = .ok (.ireturn, 1) := by decide +kernel
theorem dX5_drop_11 : decode cX5_drop 11 = .ok (.aload_n 0, 1) := by decide +kernel
theorem dX5_drop_12 : decode cX5_drop 12 = .ok (.getfield 31, 3) := by decide +kernel
theorem dX5_drop_15 : decode cX5_drop 15 = .ok (.iconst 3, 1) := by decide +kernel
theorem dX5_drop_16 : decode cX5_drop 16 = .ok (.iload_n 1, 1) := by decide +kernel
theorem dX5_drop_17 : decode cX5_drop 17 = .ok (.imul, 1) := by decide +kernel
theorem dX5_drop_18 : decode cX5_drop 18 = .ok (.iload_n 2, 1) := by decide +kernel
theorem dX5_drop_19 : decode cX5_drop 19 = .ok (.iadd, 1) := by decide +kernel
theorem dX5_drop_20 : decode cX5_drop 20 = .ok (.iaload, 1) := by decide +kernel
theorem dX5_drop_21 : decode cX5_drop 21 = .ok (.aload_n 0, 1) := by decide +kernel
theorem dX5_drop_22 : decode cX5_drop 22 = .ok (.getfield 24, 3) := by decide +kernel
theorem dX5_drop_25 : decode cX5_drop 25 = .ok (.iload_n 1, 1) := by decide +kernel
theorem dX5_drop_26 : decode cX5_drop 26 = .ok (.iaload, 1) := by decide +kernel
theorem dX5_drop_27 : decode cX5_drop 27 = .ok (.invokestatic 62, 3) := by decide +kernel
theorem dX5_drop_30 : decode cX5_drop 30 = .ok (.istore_n 3, 1) := by decide +kernel
theorem dX5_drop_31 : decode cX5_drop 31 = .ok (.aload_n 0, 1) := by decide +kernel
theorem dX5_drop_32 : decode cX5_drop 32 = .ok (.getfield 24, 3) := by decide +kernel
theorem dX5_drop_35 : decode cX5_drop 35 = .ok (.iload_n 1, 1) := by decide +kernel
theorem dX5_drop_36 : decode cX5_drop 36 = .ok (.dup2, 1) := by decide +kernel
theorem dX5_drop_37 : decode cX5_drop 37 = .ok (.iaload, 1) := by decide +kernel
theorem dX5_drop_38 : decode cX5_drop 38 = .ok (.iload_n 3, 1) := by decide +kernel
theorem dX5_drop_39 : decode cX5_drop 39 = .ok (.isub, 1) := by decide +kernel
theorem dX5_drop_40 : decode cX5_drop 40 = .ok (.iastore, 1) := by decide +kernel
theorem dX5_drop_41 : decode cX5_drop 41 = .ok (.aload_n 0, 1) := by decide +kernel
theorem dX5_drop_42 : decode cX5_drop 42 = .ok (.getfield 28, 3) := by decide +kernel
theorem dX5_drop_45 : decode cX5_drop 45 = .ok (.iload_n 1, 1) := by decide +kernel
theorem dX5_drop_46 : decode cX5_drop 46 = .ok (.dup2, 1) := by decide +kernel
theorem dX5_drop_47 : decode cX5_drop 47 = .ok (.iaload, 1) := by decide +kernel
theorem dX5_drop_48 : decode cX5_drop 48 = .ok (.iload_n 3, 1) := by decide +kernel
theorem dX5_drop_49 : decode cX5_drop 49 = .ok (.iadd, 1) := by decide +kernel
theorem dX5_drop_50 : decode cX5_drop 50 = .ok (.iastore, 1) := by decide +kernel
theorem dX5_drop_51 : decode cX5_drop 51 = .ok (.iload_n 3, 1) := by decide +kernel
theorem dX5_drop_52 : decode cX5_drop 52 = .ok (.ireturn, 1) := by decide +kernel
theorem dX5_closeFurther_0 : decode cX5_closeFurther 0 = .ok (.iconst 0, 1) := by decide +kernel
theorem dX5_closeFurther_1 : decode cX5_closeFurther 1 = .ok (.istore_n 2, 1) := by decide +kernel
theorem dX5_closeFurther_2 : decode cX5_closeFurther 2 = .ok (.iconst 0, 1) := by decide +kernel
theorem dX5_closeFurther_3 : decode cX5_closeFurther 3 = .ok (.istore_n 3, 1) := by decide +kernel
theorem dX5_closeFurther_4 : decode cX5_closeFurther 4 = .ok (.iload_n 3, 1) := by decide +kernel
theorem dX5_closeFurther_5 : decode cX5_closeFurther 5 = .ok (.bipush 18, 2) := by decide +kernel
theorem dX5_closeFurther_7 : decode cX5_closeFurther 7 = .ok (.if_icmp .ge 97, 3) := by decide +kernel
theorem dX5_closeFurther_10 : decode cX5_closeFurther 10 = .ok (.aload_n 0, 1) := by decide +kernel
theorem dX5_closeFurther_11 : decode cX5_closeFurther 11 = .ok (.getfield 34, 3) := by decide +kernel
theorem dX5_closeFurther_14 : decode cX5_closeFurther 14 = .ok (.iload_n 3, 1) := by decide +kernel
theorem dX5_closeFurther_15 : decode cX5_closeFurther 15 = .ok (.iaload, 1) := by decide +kernel
theorem dX5_closeFurther_16 : decode cX5_closeFurther 16 = .ok (.ifCond .le 16, 3) := by decide +kernel
theorem dX5_closeFurther_19 : decode cX5_closeFurther 19 = .ok (.aload_n 0, 1) := by decide +kernel
theorem dX5_closeFurther_20 : decode cX5_closeFurther 20 = .ok (.getfield 34, 3) := by decide +kernel
theorem dX5_closeFurther_23 : decode cX5_closeFurther 23 = .ok (.iload_n 3, 1) := by decide +kernel
theorem dX5_closeFurther_24 : decode cX5_closeFurther 24 = .ok (.dup2, 1) := by decide +kernel
theorem dX5_closeFurther_25 : decode cX5_closeFurther 25 = .ok (.iaload, 1) := by decide +kernel
theorem dX5_closeFurther_26 : decode cX5_closeFurther 26 = .ok (.iconst 1, 1) := by decide +kernel
theorem dX5_closeFurther_27 : decode cX5_closeFurther 27 = .ok (.isub, 1) := by decide +kernel
theorem dX5_closeFurther_28 : decode cX5_closeFurther 28 = .ok (.iastore, 1) := by decide +kernel
theorem dX5_closeFurther_29 : decode cX5_closeFurther 29 = .ok (.goto 69, 3) := by decide +kernel
theorem dX5_closeFurther_32 : decode cX5_closeFurther 32 = .ok (.aload_n 0, 1) := by decide +kernel
theorem dX5_closeFurther_33 : decode cX5_closeFurther 33 = .ok (.getfield 34, 3) := by decide +kernel
theorem dX5_closeFurther_36 : decode cX5_closeFurther 36 = .ok (.iload_n 3, 1) := by decide +kernel
theorem dX5_closeFurther_37 : decode cX5_closeFurther 37 = .ok (.iaload, 1) := by decide +kernel
theorem dX5_closeFurther_38 : decode cX5_closeFurther 38 = .ok (.ifCond .ne 60, 3) := by decide +kernel
theorem dX5_closeFurther_41 : decode cX5_closeFurther 41 = .ok (.aload_n 0, 1) := by decide +kernel
theorem dX5_closeFurther_42 : decode cX5_closeFurther 42 = .ok (.getfield 24, 3) := by decide +kernel
theorem dX5_closeFurther_45 : decode cX5_closeFurther 45 = .ok (.iload_n 3, 1) := by decide +kernel
theorem dX5_closeFurther_46 : decode cX5_closeFurther 46 = .ok (.iconst 3, 1) := by decide +kernel
theorem dX5_closeFurther_47 : decode cX5_closeFurther 47 = .ok (.idiv, 1) := by decide +kernel
theorem dX5_closeFurther_48 : decode cX5_closeFurther 48 = .ok (.iaload, 1) := by decide +kernel
theorem dX5_closeFurther_49 : decode cX5_closeFurther 49 = .ok (.iload_n 1, 1) := by decide +kernel
theorem dX5_closeFurther_50 : decode cX5_closeFurther 50 = .ok (.if_icmp .le 7, 3) := by decide +kernel
theorem dX5_closeFurther_53 : decode cX5_closeFurther 53 = .ok (.iconst 1, 1) := by decide +kernel
theorem dX5_closeFurther_54 : decode cX5_closeFurther 54 = .ok (.goto 4, 3) := by decide +kernel
theorem dX5_closeFurther_57 : decode cX5_closeFurther 57 = .ok (.iconst 0, 1) := by decide +kernel
theorem dX5_closeFurther_58 : decode cX5_closeFurther 58 = .ok (.istore 4, 2) := by decide +kernel
theorem dX5_closeFurther_60 : decode cX5_closeFurther 60 = .ok (.aload_n 0, 1) := by decide +kernel
theorem dX5_closeFurther_61 : decode cX5_closeFurther 61 = .ok (.getfield 31, 3) := by decide +kernel
theorem dX5_closeFurther_64 : decode cX5_closeFurther 64 = .ok (.iload_n 3, 1) := by decide +kernel
theorem dX5_closeFurther_65 : decode cX5_closeFurther 65 = .ok (.iload 4, 2) := by decide +kernel
theorem dX5_closeFurther_67 : decode cX5_closeFurther 67 = .ok (.ifCond .eq 7, 3) := by decide +kernel
theorem dX5_closeFurther_70 : decode cX5_closeFurther 70 = .ok (.iconst 1, 1) := by decide +kernel
theorem dX5_closeFurther_71 : decode cX5_closeFurther 71 = .ok (.goto 4, 3) := by decide +kernel
theorem dX5_closeFurther_74 : decode cX5_closeFurther 74 = .ok (.iconst 0, 1) := by decide +kernel
theorem dX5_closeFurther_75 : decode cX5_closeFurther 75 = .ok (.iastore, 1) := by decide +kernel
theorem dX5_closeFurther_76 : decode cX5_closeFurther 76 = .ok (.aload_n 0, 1) := by decide +kernel
theorem dX5_closeFurther_77 : decode cX5_closeFurther 77 = .ok (.getfield 34, 3) := by decide +kernel
theorem dX5_closeFurther_80 : decode cX5_closeFurther 80 = .ok (.iload_n 3, 1) := by decide +kernel
theorem dX5_closeFurther_81 : decode cX5_closeFurther 81 = .ok (.sipush (-1001), 3) := by decide +kernel
theorem dX5_closeFurther_84 : decode cX5_closeFurther 84 = .ok (.iastore, 1) := by decide +kernel
theorem dX5_closeFurther_85 : decode cX5_closeFurther 85 = .ok (.iload_n 2, 1) := by decide +kernel
theorem dX5_closeFurther_86 : decode cX5_closeFurther 86 = .ok (.iload 4, 2) := by decide +kernel
theorem dX5_closeFurther_88 : decode cX5_closeFurther 88 = .ok (.ifCond .eq 7, 3) := by decide +kernel
theorem dX5_closeFurther_91 : decode cX5_closeFurther 91 = .ok (.iconst 1, 1) := by decide +kernel
theorem dX5_closeFurther_92 : decode cX5_closeFurther 92 = .ok (.goto 4, 3) := by decide +kernel
theorem dX5_closeFurther_95 : decode cX5_closeFurther 95 = .ok (.iconst 0, 1) := by decide +kernel
theorem dX5_closeFurther_96 : decode cX5_closeFurther 96 = .ok (.iadd, 1) := by decide +kernel
theorem dX5_closeFurther_97 : decode cX5_closeFurther 97 = .ok (.istore_n 2, 1) := by decide +kernel
theorem dX5_closeFurther_98 : decode cX5_closeFurther 98 = .ok (.iinc 3 1, 3) := by decide +kernel
theorem dX5_closeFurther_101 : decode cX5_closeFurther 101 = .ok (.goto (-97), 3) := by decide +kernel
theorem dX5_closeFurther_104 : decode cX5_closeFurther 104 = .ok (.iload_n 2, 1) := by decide +kernel
theorem dX5_closeFurther_105 : decode cX5_closeFurther 105 = .ok (.ireturn, 1) := by decide +kernel
theorem dX6_init_0 : decode cX6_init 0 = .ok (.aload_n 0, 1) := by decide +kernel
theorem dX6_init_1 : decode cX6_init 1 = .ok (.invokespecial 1, 3) := by decide +kernel
theorem dX6_init_4 : decode cX6_init 4 = .ok (.aload_n 0, 1) := by decide +kernel
theorem dX6_init_5 : decode cX6_init 5 = .ok (.new 7, 3) := by decide +kernel
theorem dX6_init_8 : decode cX6_init 8 = .ok (.dup, 1) := by decide +kernel
theorem dX6_init_9 : decode cX6_init 9 = .ok (.invokespecial 9, 3) := by decide +kernel
theorem dX6_init_12 : decode cX6_init 12 = .ok (.putfield 10, 3) := by decide +kernel
theorem dX6_init_15 : decode cX6_init 15 = .ok (.aload_n 0, 1) := by decide +kernel
theorem dX6_init_16 : decode cX6_init 16 = .ok (.new 16, 3) := by decide +kernel
theorem dX6_init_19 : decode cX6_init 19 = .ok (.dup, 1) := by decide +kernel
theorem dX6_init_20 : decode cX6_init 20 = .ok (.invokespecial 18, 3) := by decide +kernel
theorem dX6_init_23 : decode cX6_init 23 = .ok (.putfield 19, 3) := by decide +kernel
theorem dX6_init_26 : decode cX6_init 26 = .ok (.aload_n 0, 1) := by decide +kernel
theorem dX6_init_27 : decode cX6_init 27 = .ok (.new 16, 3) := by decide +kernel
theorem dX6_init_30 : decode cX6_init 30 = .ok (.dup, 1) := by decide +kernel
theorem dX6_init_31 : decode cX6_init 31 = .ok (.invokespecial 18, 3) := by decide +kernel
theorem dX6_init_34 : decode cX6_init 34 = .ok (.putfield 23, 3) := by decide +kernel
theorem dX6_init_37 : decode cX6_init 37 = .ok (.aload_n 0, 1) := by decide +kernel
theorem dX6_init_38 : decode cX6_init 38 = .ok (.new 26, 3) := by decide +kernel
theorem dX6_init_41 : decode cX6_init 41 = .ok (.dup, 1) := by decide +kernel
theorem dX6_init_42 : decode cX6_init 42 = .ok (.invokespecial 28, 3) := by decide +kernel
theorem dX6_init_45 : decode cX6_init 45 = .ok (.putfield 29, 3) := by decide +kernel
theorem dX6_init_48 : decode cX6_init 48 = .ok (.return_, 1) := by decide +kernel
theorem dX6_set_0 : decode cX6_set 0 = .ok (.iload_n 1, 1) := by decide +kernel
theorem dX6_set_1 : decode cX6_set 1 = .ok (.iconst 0, 1) := by decide +kernel
theorem dX6_set_2 : decode cX6_set 2 = .ok (.iconst 4, 1) := by decide +kernel
theorem dX6_set_3 : decode cX6_set 3 = .ok (.invokestatic 33, 3) := by decide +kernel
theorem dX6_set_6 : decode cX6_set 6 = .ok (.ifCond .eq 20, 3) := by decide +kernel
theorem dX6_set_9 : decode cX6_set 9 = .ok (.iload_n 2, 1) := by decide +kernel
theorem dX6_set_10 : decode cX6_set 10 = .ok (.getstatic 51, 3) := by decide +kernel
theorem dX6_set_13 : decode cX6_set 13 = .ok (.iload_n 1, 1) := by decide +kernel
theorem dX6_set_14 : decode cX6_set 14 = .ok (.iaload, 1) := by decide +kernel
theorem dX6_set_15 : decode cX6_set 15 = .ok (.getstatic 55, 3) := by decide +kernel
theorem dX6_set_18 : decode cX6_set 18 = .ok (.iload_n 1, 1) := by decide +kernel
theorem dX6_set_19 : decode cX6_set 19 = .ok (.iaload, 1) := by decide +kernel
theorem dX6_set_20 : decode cX6_set 20 = .ok (.invokestatic 33, 3) := by decide +kernel
theorem dX6_set_23 : decode cX6_set 23 = .ok (.ifCond .ne 7, 3) := by decide +kernel
theorem dX6_set_26 : decode cX6_set 26 = .ok (.sipush (-1002), 3) := by decide +kernel
theorem dX6_set_29 : decode cX6_set 29 = .ok (.ireturn, 1) := by decide +kernel
theorem dX6_set_30 : decode cX6_set 30 = .ok (.aload_n 0, 1) := by decide +kernel
theorem dX6_set_31 : decode cX6_set 31 = .ok (.getfield 29, 3) := by decide +kernel
theorem dX6_set_34 : decode cX6_set 34 = .ok (.aload_n 0, 1) := by decide +kernel
theorem dX6_set_35 : decode cX6_set 35 = .ok (.getfield 19, 3) := by decide +kernel
theorem dX6_set_38 : decode cX6_set 38 = .ok (.invokevirtual 58, 3) := by decide +kernel
theorem dX6_set_41 : decode cX6_set 41 = .ok (.aload_n 0, 1) := by decide +kernel
theorem dX6_set_42 : decode cX6_set 42 = .ok (.getfield 19, 3) := by decide +kernel
theorem dX6_set_45 : decode cX6_set 45 = .ok (.getfield 62, 3) := by decide +kernel
theorem dX6_set_48 : decode cX6_set 48 = .ok (.iload_n 1, 1) := by decide +kernel
theorem dX6_set_49 : decode cX6_set 49 = .ok (.iaload, 1) := by decide +kernel
theorem dX6_set_50 : decode cX6_set 50 = .ok (.istore_n 3, 1) := by decide +kernel
theorem dX6_set_51 : decode cX6_set 51 = .ok (.aload_n 0, 1) := by decide +kernel
theorem dX6_set_52 : decode cX6_set 52 = .ok (.getfield 19, 3) := by decide +kernel
theorem dX6_set_55 : decode cX6_set 55 = .ok (.getfield 62, 3) := by decide +kernel
theorem dX6_set_58 : decode cX6_set 58 = .ok (.iload_n 1, 1) := by decide +kernel
theorem dX6_set_59 : decode cX6_set 59 = .ok (.iload_n 2, 1) := by decide +kernel
theorem dX6_set_60 : decode cX6_set 60 = .ok (.iastore, 1) := by decide +kernel
theorem dX6_set_61 : decode cX6_set 61 = .ok (.iload_n 3, 1) := by decide +kernel
theorem dX6_set_62 : decode cX6_set 62 = .ok (.ireturn, 1) := by decide +kernel
theorem dX6_setTrain_0 : decode cX6_setTrain 0 = .ok (.iload_n 1, 1) := by decide +kernel
theorem dX6_setTrain_1 : decode cX6_setTrain 1 = .ok (.iconst 1, 1) := by decide +kernel
theorem dX6_setTrain_2 : decode cX6_setTrain 2 = .ok (.bipush 6, 2) := by decide +kernel
theorem dX6_setTrain_4 : decode cX6_setTrain 4 = .ok (.invokestatic 33, 3) := by decide +kernel
theorem dX6_setTrain_7 : decode cX6_setTrain 7 = .ok (.ifCond .ne 7, 3) := by decide +kernel
theorem dX6_setTrain_10 : decode cX6_setTrain 10 = .ok (.sipush (-1002), 3) := by decide +kernel
theorem dX6_setTrain_13 : decode cX6_setTrain 13 = .ok (.ireturn, 1) := by decide +kernel
theorem dX6_setTrain_14 : decode cX6_setTrain 14 = .ok (.aload_n 0, 1) := by decide +kernel
theorem dX6_setTrain_15 : decode cX6_setTrain 15 = .ok (.getfield 29, 3) := by decide +kernel
theorem dX6_setTrain_18 : decode cX6_setTrain 18 = .ok (.aload_n 0, 1) := by decide +kernel
theorem dX6_setTrain_19 : decode cX6_setTrain 19 = .ok (.getfield 19, 3) := by decide +kernel
theorem dX6_setTrain_22 : decode cX6_setTrain 22 = .ok (.invokevirtual 58, 3) := by decide +kernel
theorem dX6_setTrain_25 : decode cX6_setTrain 25 = .ok (.aload_n 0, 1) := by decide +kernel
theorem dX6_setTrain_26 : decode cX6_setTrain 26 = .ok (.getfield 19, 3) := by decide +kernel
theorem dX6_setTrain_29 : decode cX6_setTrain 29 = .ok (.getfield 65, 3) := by decide +kernel
theorem dX6_setTrain_32 : decode cX6_setTrain 32 = .ok (.invokevirtual 69, 3) := by decide +kernel
theorem dX6_setTrain_35 : decode cX6_setTrain 35 = .ok (.istore_n 2, 1) := by decide +kernel
theorem dX6_setTrain_36 : decode cX6_setTrain 36 = .ok (.aload_n 0, 1) := by decide +kernel
theorem dX6_setTrain_37 : decode cX6_setTrain 37 = .ok (.getfield 19, 3) := by decide +kernel
theorem dX6_setTrain_40 : decode cX6_setTrain 40 = .ok (.getfield 65, 3) := by decide +kernel
theorem dX6_setTrain_43 : decode cX6_setTrain 43 = .ok (.iload_n 1, 1) := by decide +kernel
theorem dX6_setTrain_44 : decode cX6_setTrain 44 = .ok (.invokevirtual 75, 3) := by decide +kernel
theorem dX6_setTrain_47 : decode cX6_setTrain 47 = .ok (.aload_n 0, 1) := by decide +kernel
theorem dX6_setTrain_48 : decode cX6_setTrain 48 = .ok (.getfield 19, 3) := by decide +kernel
theorem dX6_setTrain_51 : decode cX6_setTrain 51 = .ok (.dup, 1) := by decide +kernel
theorem dX6_setTrain_52 : decode cX6_setTrain 52 = .ok (.getfield 79, 3) := by decide +kernel
theorem dX6_setTrain_55 : decode cX6_setTrain 55 = .ok (.iload_n 2, 1) := by decide +kernel
theorem dX6_setTrain_56 : decode cX6_setTrain 56 = .ok (.iadd, 1) := by decide +kernel
theorem dX6_setTrain_57 : decode cX6_setTrain 57 = .ok (.putfield 79, 3) := by decide +kernel
theorem dX6_setTrain_60 : decode cX6_setTrain 60 = .ok (.iload_n 2, 1) := by decide +kernel
theorem dX6_setTrain_61 : decode cX6_setTrain 61 = .ok (.ireturn, 1) := by decide +kernel
theorem dX6_load_0 : decode cX6_load 0 = .ok (.aload_n 0, 1) := by decide +kernel
theorem dX6_load_1 : decode cX6_load 1 = .ok (.getfield 19, 3) := by decide +kernel
theorem dX6_load_4 : decode cX6_load 4 = .ok (.getfield 65, 3) := by decide +kernel
theorem dX6_load_7 : decode cX6_load 7 = .ok (.iload_n 1, 1) := by decide +kernel
theorem dX6_load_8 : decode cX6_load 8 = .ok (.invokevirtual 82, 3) := by decide +kernel
theorem dX6_load_11 : decode cX6_load 11 = .ok (.ifCond .eq 14, 3) := by decide +kernel
theorem dX6_load_14 : decode cX6_load 14 = .ok (.iload_n 2, 1) := by decide +kernel
theorem dX6_load_15 : decode cX6_load 15 = .ok (.iconst 1, 1) := by decide +kernel
theorem dX6_load_16 : decode cX6_load 16 = .ok (.sipush 200, 3) := by decide +kernel
theorem dX6_load_19 : decode cX6_load 19 = .ok (.invokestatic 33, 3) := by decide +kernel
theorem dX6_load_22 : decode cX6_load 22 = .ok (.ifCond .ne 7, 3) := by decide +kernel
theorem dX6_load_25 : decode cX6_load 25 = .ok (.sipush (-1002), 3) := by decide +kernel
theorem dX6_load_28 : decode cX6_load 28 = .ok (.ireturn, 1) := by decide +kernel
theorem dX6_load_29 : decode cX6_load 29 = .ok (.aload_n 0, 1) := by decide +kernel
theorem dX6_load_30 : decode cX6_load 30 = .ok (.getfield 19, 3) := by decide +kernel
theorem dX6_load_33 : decode cX6_load 33 = .ok (.getfield 65, 3) := by decide +kernel
theorem dX6_load_36 : decode cX6_load 36 = .ok (.getfield 85, 3) := by decide +kernel
theorem dX6_load_39 : decode cX6_load 39 = .ok (.ifCond .eq 7, 3) := by decide +kernel
theorem dX6_load_42 : decode cX6_load 42 = .ok (.sipush (-1003), 3) := by decide +kernel
theorem dX6_load_45 : decode cX6_load 45 = .ok (.ireturn, 1) := by decide +kernel
theorem dX6_load_46 : decode cX6_load 46 = .ok (.aload_n 0, 1) := by decide +kernel
theorem dX6_load_47 : decode cX6_load 47 = .ok (.getfield 19, 3) := by decide +kernel
theorem dX6_load_50 : decode cX6_load 50 = .ok (.getfield 65, 3) := by decide +kernel
theorem dX6_load_53 : decode cX6_load 53 = .ok (.getfield 88, 3) := by decide +kernel
theorem dX6_load_56 : decode cX6_load 56 = .ok (.iload_n 1, 1) := by decide +kernel
theorem dX6_load_57 : decode cX6_load 57 = .ok (.iaload, 1) := by decide +kernel
theorem dX6_load_58 : decode cX6_load 58 = .ok (.iload_n 2, 1) := by decide +kernel
theorem dX6_load_59 : decode cX6_load 59 = .ok (.iadd, 1) := by decide +kernel
theorem dX6_load_60 : decode cX6_load 60 = .ok (.sipush 200, 3) := by decide +kernel
theorem dX6_load_63 : decode cX6_load 63 = .ok (.if_icmp .le 7, 3) := by decide +kernel
theorem dX6_load_66 : decode cX6_load 66 = .ok (.sipush (-1004), 3) := by decide +kernel
theorem dX6_load_69 : decode cX6_load 69 = .ok (.ireturn, 1) := by decide +kernel
theorem dX6_load_70 : decode cX6_load 70 = .ok (.aload_n 0, 1) := by decide +kernel
theorem dX6_load_71 : decode cX6_load 71 = .ok (.getfield 29, 3) := by decide +kernel
theorem dX6_load_74 : decode cX6_load 74 = .ok (.aload_n 0, 1) := by decide +kernel
theorem dX6_load_75 : decode cX6_load 75 = .ok (.getfield 19, 3) := by decide +kernel
theorem dX6_load_78 : decode cX6_load 78 = .ok (.invokevirtual 58, 3) := by decide +kernel
theorem dX6_load_81 : decode cX6_load 81 = .ok (.aload_n 0, 1) := by decide +kernel
theorem dX6_load_82 : decode cX6_load 82 = .ok (.getfield 19, 3) := by decide +kernel
theorem dX6_load_85 : decode cX6_load 85 = .ok (.getfield 65, 3) := by decide +kernel
theorem dX6_load_88 : decode cX6_load 88 = .ok (.getfield 88, 3) := by decide +kernel
theorem dX6_load_91 : decode cX6_load 91 = .ok (.iload_n 1, 1) := by decide +kernel
theorem dX6_load_92 : decode cX6_load 92 = .ok (.dup2, 1) := by decide +kernel
theorem dX6_load_93 : decode cX6_load 93 = .ok (.iaload, 1) := by decide +kernel
theorem dX6_load_94 : decode cX6_load 94 = .ok (.iload_n 2, 1) := by decide +kernel
theorem dX6_load_95 : decode cX6_load 95 = .ok (.iadd, 1) := by decide +kernel
theorem dX6_load_96 : decode cX6_load 96 = .ok (.iastore, 1) := by decide +kernel
theorem dX6_load_97 : decode cX6_load 97 = .ok (.aload_n 0, 1) := by decide +kernel
theorem dX6_load_98 : decode cX6_load 98 = .ok (.getfield 19, 3) := by decide +kernel
theorem dX6_load_101 : decode cX6_load 101 = .ok (.dup, 1) := by decide +kernel
theorem dX6_load_102 : decode cX6_load 102 = .ok (.getfield 91, 3) := by decide +kernel
theorem dX6_load_105 : decode cX6_load 105 = .ok (.iload_n 2, 1) := by decide +kernel
theorem dX6_load_106 : decode cX6_load 106 = .ok (.iadd, 1) := by decide +kernel
theorem dX6_load_107 : decode cX6_load 107 = .ok (.putfield 91, 3) := by decide +kernel
theorem dX6_load_110 : decode cX6_load 110 = .ok (.aload_n 0, 1) := by decide +kernel
theorem dX6_load_111 : decode cX6_load 111 = .ok (.getfield 19, 3) := by decide +kernel
theorem dX6_load_114 : decode cX6_load 114 = .ok (.getfield 65, 3) := by decide +kernel
theorem dX6_load_117 : decode cX6_load 117 = .ok (.getfield 88, 3) := by decide +kernel
theorem dX6_load_120 : decode cX6_load 120 = .ok (.iload_n 1, 1) := by decide +kernel
theorem dX6_load_121 : decode cX6_load 121 = .ok (.iaload, 1) := by decide +kernel
theorem dX6_load_122 : decode cX6_load 122 = .ok (.ireturn, 1) := by decide +kernel
theorem dX6_door_0 : decode cX6_door 0 = .ok (.aload_n 0, 1) := by decide +kernel
theorem dX6_door_1 : decode cX6_door 1 = .ok (.getfield 19, 3) := by decide +kernel
theorem dX6_door_4 : decode cX6_door 4 = .ok (.getfield 65, 3) := by decide +kernel
theorem dX6_door_7 : decode cX6_door 7 = .ok (.iload_n 1, 1) := by decide +kernel
theorem dX6_door_8 : decode cX6_door 8 = .ok (.iload_n 2, 1) := by decide +kernel
theorem dX6_door_9 : decode cX6_door 9 = .ok (.invokevirtual 94, 3) := by decide +kernel
theorem dX6_door_12 : decode cX6_door 12 = .ok (.ifCond .eq 12, 3) := by decide +kernel
theorem dX6_door_15 : decode cX6_door 15 = .ok (.iload_n 3, 1) := by decide +kernel
theorem dX6_door_16 : decode cX6_door 16 = .ok (.iconst 0, 1) := by decide +kernel
theorem dX6_door_17 : decode cX6_door 17 = .ok (.iconst 3, 1) := by decide +kernel
theorem dX6_door_18 : decode cX6_door 18 = .ok (.invokestatic 33, 3) := by decide +kernel
theorem dX6_door_21 : decode cX6_door 21 = .ok (.ifCond .ne 7, 3) := by decide +kernel
theorem dX6_door_24 : decode cX6_door 24 = .ok (.sipush (-1002), 3) := by decide +kernel
theorem dX6_door_27 : decode cX6_door 27 = .ok (.ireturn, 1) := by decide +kernel
theorem dX6_door_28 : decode cX6_door 28 = .ok (.aload_n 0, 1) := by decide +kernel
theorem dX6_door_29 : decode cX6_door 29 = .ok (.getfield 29, 3) := by decide +kernel
theorem dX6_door_32 : decode cX6_door 32 = .ok (.aload_n 0, 1) := by decide +kernel
theorem dX6_door_33 : decode cX6_door 33 = .ok (.getfield 19, 3) := by decide +kernel
theorem dX6_door_36 : decode cX6_door 36 = .ok (.invokevirtual 58, 3) := by decide +kernel
theorem dX6_door_39 : decode cX6_door 39 = .ok (.aload_n 0, 1) := by decide +kernel
theorem dX6_door_40 : decode cX6_door 40 = .ok (.getfield 19, 3) := by decide +kernel
theorem dX6_door_43 : decode cX6_door 43 = .ok (.getfield 65, 3) := by decide +kernel
theorem dX6_door_46 : decode cX6_door 46 = .ok (.iload_n 1, 1) := by decide +kernel
theorem dX6_door_47 : decode cX6_door 47 = .ok (.iload_n 2, 1) := by decide +kernel
theorem dX6_door_48 : decode cX6_door 48 = .ok (.invokevirtual 98, 3) := by decide +kernel
theorem dX6_door_51 : decode cX6_door 51 = .ok (.istore 4, 2) := by decide +kernel
theorem dX6_door_53 : decode cX6_door 53 = .ok (.iload_n 3, 1) := by decide +kernel
theorem dX6_door_54 : decode cX6_door 54 = .ok (.ifCond .ne 27, 3) := by decide +kernel
theorem dX6_door_57 : decode cX6_door 57 = .ok (.aload_n 0, 1) := by decide +kernel
theorem dX6_door_58 : decode cX6_door 58 = .ok (.getfield 19, 3) := by decide +kernel
theorem dX6_door_61 : decode cX6_door 61 = .ok (.getfield 65, 3) := by decide +kernel
theorem dX6_door_64 : decode cX6_door 64 = .ok (.iload_n 1, 1) := by decide +kernel
theorem dX6_door_65 : decode cX6_door 65 = .ok (.iload_n 2, 1) := by decide +kernel
theorem dX6_door_66 : decode cX6_door 66 = .ok (.aload_n 0, 1) := by decide +kernel
theorem dX6_door_67 : decode cX6_door 67 = .ok (.getfield 19, 3) := by decide +kernel
theorem dX6_door_70 : decode cX6_door 70 = .ok (.getfield 62, 3) := by decide +kernel
theorem dX6_door_73 : decode cX6_door 73 = .ok (.iconst 2, 1) := by decide +kernel
theorem dX6_door_74 : decode cX6_door 74 = .ok (.iaload, 1) := by decide +kernel
theorem dX6_door_75 : decode cX6_door 75 = .ok (.invokevirtual 102, 3) := by decide +kernel
theorem dX6_door_78 : decode cX6_door 78 = .ok (.goto 16, 3) := by decide +kernel
theorem dX6_door_81 : decode cX6_door 81 = .ok (.aload_n 0, 1) := by decide +kernel
theorem dX6_door_82 : decode cX6_door 82 = .ok (.getfield 19, 3) := by decide +kernel
theorem dX6_door_85 : decode cX6_door 85 = .ok (.getfield 65, 3) := by decide +kernel
theorem dX6_door_88 : decode cX6_door 88 = .ok (.iload_n 1, 1) := by decide +kernel
theorem dX6_door_89 : decode cX6_door 89 = .ok (.iload_n 2, 1) := by decide +kernel
theorem dX6_door_90 : decode cX6_door 90 = .ok (.iload_n 3, 1) := by decide +kernel
theorem dX6_door_91 : decode cX6_door 91 = .ok (.invokevirtual 106, 3) := by decide +kernel
theorem dX6_door_94 : decode cX6_door 94 = .ok (.iload 4, 2) := by decide +kernel
theorem dX6_door_96 : decode cX6_door 96 = .ok (.ireturn, 1) := by decide +kernel
theorem dX6_wish_0 : decode cX6_wish 0 = .ok (.iload_n 1, 1) := by decide +kernel
theorem dX6_wish_1 : decode cX6_wish 1 = .ok (.iconst 0, 1) := by decide +kernel
theorem dX6_wish_2 : decode cX6_wish 2 = .ok (.iconst 3, 1) := by decide +kernel
theorem dX6_wish_3 : decode cX6_wish 3 = .ok (.invokestatic 33, 3) := by decide +kernel
theorem dX6_wish_6 : decode cX6_wish 6 = .ok (.ifCond .ne 7, 3) := by decide +kernel
theorem dX6_wish_9 : decode cX6_wish 9 = .ok (.sipush (-1002), 3) := by decide +kernel
theorem dX6_wish_12 : decode cX6_wish 12 = .ok (.ireturn, 1) := by decide +kernel
theorem dX6_wish_13 : decode cX6_wish 13 = .ok (.aload_n 0, 1) := by decide +kernel
theorem dX6_wish_14 : decode cX6_wish 14 = .ok (.getfield 29, 3) := by decide +kernel
theorem dX6_wish_17 : decode cX6_wish 17 = .ok (.aload_n 0, 1) := by decide +kernel
theorem dX6_wish_18 : decode cX6_wish 18 = .ok (.getfield 19, 3) := by decide +kernel
theorem dX6_wish_21 : decode cX6_wish 21 = .ok (.invokevirtual 58, 3) := by decide +kernel
theorem dX6_wish_24 : decode cX6_wish 24 = .ok (.aload_n 0, 1) := by decide +kernel
theorem dX6_wish_25 : decode cX6_wish 25 = .ok (.getfield 19, 3) := by decide +kernel
theorem dX6_wish_28 : decode cX6_wish 28 = .ok (.getfield 65, 3) := by decide +kernel
theorem dX6_wish_31 : decode cX6_wish 31 = .ok (.getfield 109, 3) := by decide +kernel
theorem dX6_wish_34 : decode cX6_wish 34 = .ok (.istore_n 2, 1) := by decide +kernel
theorem dX6_wish_35 : decode cX6_wish 35 = .ok (.aload_n 0, 1) := by decide +kernel
theorem dX6_wish_36 : decode cX6_wish 36 = .ok (.getfield 19, 3) := by decide +kernel
theorem dX6_wish_39 : decode cX6_wish 39 = .ok (.getfield 65, 3) := by decide +kernel
theorem dX6_wish_42 : decode cX6_wish 42 = .ok (.iload_n 1, 1) := by decide +kernel
theorem dX6_wish_43 : decode cX6_wish 43 = .ok (.putfield 109, 3) := by decide +kernel
theorem dX6_wish_46 : decode cX6_wish 46 = .ok (.iload_n 2, 1) := by decide +kernel
theorem dX6_wish_47 : decode cX6_wish 47 = .ok (.ireturn, 1) := by decide +kernel
theorem dX6_cancel_0 : decode cX6_cancel 0 = .ok (.iload_n 1, 1) := by decide +kernel
theorem dX6_cancel_1 : decode cX6_cancel 1 = .ok (.ifCond .lt 17, 3) := by decide +kernel
theorem dX6_cancel_4 : decode cX6_cancel 4 = .ok (.iload_n 1, 1) := by decide +kernel
theorem dX6_cancel_5 : decode cX6_cancel 5 = .ok (.aload_n 0, 1) := by decide +kernel
theorem dX6_cancel_6 : decode cX6_cancel 6 = .ok (.getfield 19, 3) := by decide +kernel
theorem dX6_cancel_9 : decode cX6_cancel 9 = .ok (.getfield 112, 3) := by decide +kernel
theorem dX6_cancel_12 : decode cX6_cancel 12 = .ok (.invokevirtual 116, 3) := by decide +kernel
theorem dX6_cancel_15 : decode cX6_cancel 15 = .ok (.if_icmp .lt 7, 3) := by decide +kernel
theorem dX6_cancel_18 : decode cX6_cancel 18 = .ok (.sipush (-1002), 3) := by decide +kernel
theorem dX6_cancel_21 : decode cX6_cancel 21 = .ok (.ireturn, 1) := by decide +kernel
theorem dX6_cancel_22 : decode cX6_cancel 22 = .ok (.aload_n 0, 1) := by decide +kernel
theorem dX6_cancel_23 : decode cX6_cancel 23 = .ok (.getfield 29, 3) := by decide +kernel
theorem dX6_cancel_26 : decode cX6_cancel 26 = .ok (.aload_n 0, 1) := by decide +kernel
theorem dX6_cancel_27 : decode cX6_cancel 27 = .ok (.getfield 19, 3) := by decide +kernel
theorem dX6_cancel_30 : decode cX6_cancel 30 = .ok (.invokevirtual 58, 3) := by decide +kernel
theorem dX6_cancel_33 : decode cX6_cancel 33 = .ok (.aload_n 0, 1) := by decide +kernel
theorem dX6_cancel_34 : decode cX6_cancel 34 = .ok (.getfield 19, 3) := by decide +kernel
theorem dX6_cancel_37 : decode cX6_cancel 37 = .ok (.getfield 112, 3) := by decide +kernel
theorem dX6_cancel_40 : decode cX6_cancel 40 = .ok (.iload_n 1, 1) := by decide +kernel
theorem dX6_cancel_41 : decode cX6_cancel 41 = .ok (.invokevirtual 126, 3) := by decide +kernel
theorem dX6_cancel_44 : decode cX6_cancel 44 = .ok (.pop, 1) := by decide +kernel
theorem dX6_cancel_45 : decode cX6_cancel 45 = .ok (.aload_n 0, 1) := by decide +kernel
theorem dX6_cancel_46 : decode cX6_cancel 46 = .ok (.getfield 19, 3) := by decide +kernel
theorem dX6_cancel_49 : decode cX6_cancel 49 = .ok (.getfield 112, 3) := by decide +kernel
theorem dX6_cancel_52 : decode cX6_cancel 52 = .ok (.invokevirtual 116, 3) := by decide +kernel
theorem dX6_cancel_55 : decode cX6_cancel 55 = .ok (.ireturn, 1) := by decide +kernel
theorem dX6_pass_0 : decode cX6_pass 0 = .ok (.iload_n 1, 1) := by decide +kernel
theorem dX6_pass_1 : decode cX6_pass 1 = .ok (.iconst 1, 1) := by decide +kernel
theorem dX6_pass_2 : decode cX6_pass 2 = .ok (.sipush 200, 3) := by decide +kernel
theorem dX6_pass_5 : decode cX6_pass 5 = .ok (.invokestatic 33, 3) := by decide +kernel
theorem dX6_pass_8 : decode cX6_pass 8 = .ok (.ifCond .ne 7, 3) := by decide +kernel
theorem dX6_pass_11 : decode cX6_pass 11 = .ok (.sipush (-1002), 3) := by decide +kernel
theorem dX6_pass_14 : decode cX6_pass 14 = .ok (.ireturn, 1) := by decide +kernel
theorem dX6_pass_15 : decode cX6_pass 15 = .ok (.aload_n 0, 1) := by decide +kernel
theorem dX6_pass_16 : decode cX6_pass 16 = .ok (.getfield 19, 3) := by decide +kernel
theorem dX6_pass_19 : decode cX6_pass 19 = .ok (.getfield 130, 3) := by decide +kernel
theorem dX6_pass_22 : decode cX6_pass 22 = .ok (.iload_n 1, 1) := by decide +kernel
theorem dX6_pass_23 : decode cX6_pass 23 = .ok (.iadd, 1) := by decide +kernel
theorem dX6_pass_24 : decode cX6_pass 24 = .ok (.sipush 9999, 3) := by decide +kernel
theorem dX6_pass_27 : decode cX6_pass 27 = .ok (.if_icmp .le 7, 3) := by decide +kernel
theorem dX6_pass_30 : decode cX6_pass 30 = .ok (.sipush (-1004), 3) := by decide +kernel
theorem dX6_pass_33 : decode cX6_pass 33 = .ok (.ireturn, 1) := by decide +kernel
theorem dX6_pass_34 : decode cX6_pass 34 = .ok (.aload_n 0, 1) := by decide +kernel
theorem dX6_pass_35 : decode cX6_pass 35 = .ok (.getfield 29, 3) := by decide +kernel
theorem dX6_pass_38 : decode cX6_pass 38 = .ok (.aload_n 0, 1) := by decide +kernel
theorem dX6_pass_39 : decode cX6_pass 39 = .ok (.getfield 19, 3) := by decide +kernel
theorem dX6_pass_42 : decode cX6_pass 42 = .ok (.invokevirtual 58, 3) := by decide +kernel
theorem dX6_pass_45 : decode cX6_pass 45 = .ok (.iconst 0, 1) := by decide +kernel
theorem dX6_pass_46 : decode cX6_pass 46 = .ok (.istore_n 2, 1) := by decide +kernel
theorem dX6_pass_47 : decode cX6_pass 47 = .ok (.iload_n 2, 1) := by decide +kernel
theorem dX6_pass_48 : decode cX6_pass 48 = .ok (.iload_n 1, 1) := by decide +kernel
theorem dX6_pass_49 : decode cX6_pass 49 = .ok (.if_icmp .ge 16, 3) := by decide +kernel
theorem dX6_pass_52 : decode cX6_pass 52 = .ok (.aload_n 0, 1) := by decide +kernel
theorem dX6_pass_53 : decode cX6_pass 53 = .ok (.getfield 19, 3) := by decide +kernel
theorem dX6_pass_56 : decode cX6_pass 56 = .ok (.invokevirtual 133, 3) := by decide +kernel
theorem dX6_pass_59 : decode cX6_pass 59 = .ok (.iinc 2 1, 3) := by decide +kernel
theorem dX6_pass_62 : decode cX6_pass 62 = .ok (.goto (-15), 3) := by decide +kernel
theorem dX6_pass_65 : decode cX6_pass 65 = .ok (.aload_n 0, 1) := by decide +kernel
theorem dX6_pass_66 : decode cX6_pass 66 = .ok (.getfield 19, 3) := by decide +kernel
theorem dX6_pass_69 : decode cX6_pass 69 = .ok (.getfield 65, 3) := by decide +kernel
theorem dX6_pass_72 : decode cX6_pass 72 = .ok (.getfield 136, 3) := by decide +kernel
theorem dX6_pass_75 : decode cX6_pass 75 = .ok (.ireturn, 1) := by decide +kernel
theorem dX6_scrape_0 : decode cX6_scrape 0 = .ok (.iload_n 1, 1) := by decide +kernel
theorem dX6_scrape_1 : decode cX6_scrape 1 = .ok (.iload_n 2, 1) := by decide +kernel
theorem dX6_scrape_2 : decode cX6_scrape 2 = .ok (.invokestatic 139, 3) := by decide +kernel
theorem dX6_scrape_5 : decode cX6_scrape 5 = .ok (.ifCond .eq 13, 3) := by decide +kernel
theorem dX6_scrape_8 : decode cX6_scrape 8 = .ok (.iload_n 3, 1) := by decide +kernel
theorem dX6_scrape_9 : decode cX6_scrape 9 = .ok (.iconst 1, 1) := by decide +kernel
theorem dX6_scrape_10 : decode cX6_scrape 10 = .ok (.bipush 60, 2) := by decide +kernel
theorem dX6_scrape_12 : decode cX6_scrape 12 = .ok (.invokestatic 33, 3) := by decide +kernel
theorem dX6_scrape_15 : decode cX6_scrape 15 = .ok (.ifCond .ne 7, 3) := by decide +kernel
theorem dX6_scrape_18 : decode cX6_scrape 18 = .ok (.sipush (-1002), 3) := by decide +kernel
theorem dX6_scrape_21 : decode cX6_scrape 21 = .ok (.ireturn, 1) := by decide +kernel
theorem dX6_scrape_22 : decode cX6_scrape 22 = .ok (.aload_n 0, 1) := by decide +kernel
theorem dX6_scrape_23 : decode cX6_scrape 23 = .ok (.getfield 29, 3) := by decide +kernel
theorem dX6_scrape_26 : decode cX6_scrape 26 = .ok (.aload_n 0, 1) := by decide +kernel
theorem dX6_scrape_27 : decode cX6_scrape 27 = .ok (.getfield 19, 3) := by decide +kernel
theorem dX6_scrape_30 : decode cX6_scrape 30 = .ok (.invokevirtual 58, 3) := by decide +kernel
theorem dX6_scrape_33 : decode cX6_scrape 33 = .ok (.iload_n 3, 1) := by decide +kernel
theorem dX6_scrape_34 : decode cX6_scrape 34 = .ok (.aload_n 0, 1) := by decide +kernel
theorem dX6_scrape_35 : decode cX6_scrape 35 = .ok (.getfield 19, 3) := by decide +kernel
theorem dX6_scrape_38 : decode cX6_scrape 38 = .ok (.getfield 144, 3) := by decide +kernel
theorem dX6_scrape_41 : decode cX6_scrape 41 = .ok (.iload_n 1, 1) := by decide +kernel
theorem dX6_scrape_42 : decode cX6_scrape 42 = .ok (.iload_n 2, 1) := by decide +kernel
theorem dX6_scrape_43 : decode cX6_scrape 43 = .ok (.invokevirtual 148, 3) := by decide +kernel
theorem dX6_scrape_46 : decode cX6_scrape 46 = .ok (.invokestatic 151, 3) := by decide +kernel
theorem dX6_scrape_49 : decode cX6_scrape 49 = .ok (.istore 4, 2) := by decide +kernel
theorem dX6_scrape_51 : decode cX6_scrape 51 = .ok (.aload_n 0, 1) := by decide +kernel
theorem dX6_scrape_52 : decode cX6_scrape 52 = .ok (.getfield 19, 3) := by decide +kernel
theorem dX6_scrape_55 : decode cX6_scrape 55 = .ok (.getfield 144, 3) := by decide +kernel
theorem dX6_scrape_58 : decode cX6_scrape 58 = .ok (.iload_n 1, 1) := by decide +kernel
theorem dX6_scrape_59 : decode cX6_scrape 59 = .ok (.iload_n 2, 1) := by decide +kernel
theorem dX6_scrape_60 : decode cX6_scrape 60 = .ok (.iload 4, 2) := by decide +kernel
theorem dX6_scrape_62 : decode cX6_scrape 62 = .ok (.ineg, 1) := by decide +kernel
theorem dX6_scrape_63 : decode cX6_scrape 63 = .ok (.invokevirtual 156, 3) := by decide +kernel
theorem dX6_scrape_66 : decode cX6_scrape 66 = .ok (.aload_n 0, 1) := by decide +kernel
theorem dX6_scrape_67 : decode cX6_scrape 67 = .ok (.getfield 19, 3) := by decide +kernel
theorem dX6_scrape_70 : decode cX6_scrape 70 = .ok (.dup, 1) := by decide +kernel
theorem dX6_scrape_71 : decode cX6_scrape 71 = .ok (.getfield 79, 3) := by decide +kernel
theorem dX6_scrape_74 : decode cX6_scrape 74 = .ok (.iload 4, 2) := by decide +kernel
theorem dX6_scrape_76 : decode cX6_scrape 76 = .ok (.iadd, 1) := by decide +kernel
theorem dX6_scrape_77 : decode cX6_scrape 77 = .ok (.putfield 79, 3) := by decide +kernel
theorem dX6_scrape_80 : decode cX6_scrape 80 = .ok (.iload 4, 2) := by decide +kernel
theorem dX6_scrape_82 : decode cX6_scrape 82 = .ok (.ireturn, 1) := by decide +kernel
theorem dX6_undo_0 : decode cX6_undo 0 = .ok (.aload_n 0, 1) := by decide +kernel
theorem dX6_undo_1 : decode cX6_undo 1 = .ok (.getfield 29, 3) := by decide +kernel
theorem dX6_undo_4 : decode cX6_undo 4 = .ok (.getfield 159, 3) := by decide +kernel
theorem dX6_undo_7 : decode cX6_undo 7 = .ok (.ifCond .ne 7, 3) := by decide +kernel
theorem dX6_undo_10 : decode cX6_undo 10 = .ok (.sipush (-1003), 3) := by decide +kernel
theorem dX6_undo_13 : decode cX6_undo 13 = .ok (.ireturn, 1) := by decide +kernel
theorem dX6_undo_14 : decode cX6_undo 14 = .ok (.aload_n 0, 1) := by decide +kernel
theorem dX6_undo_15 : decode cX6_undo 15 = .ok (.getfield 29, 3) := by decide +kernel
theorem dX6_undo_18 : decode cX6_undo 18 = .ok (.aload_n 0, 1) := by decide +kernel
theorem dX6_undo_19 : decode cX6_undo 19 = .ok (.getfield 19, 3) := by decide +kernel
theorem dX6_undo_22 : decode cX6_undo 22 = .ok (.invokevirtual 161, 3) := by decide +kernel
theorem dX6_undo_25 : decode cX6_undo 25 = .ok (.aload_n 0, 1) := by decide +kernel
theorem dX6_undo_26 : decode cX6_undo 26 = .ok (.getfield 29, 3) := by decide +kernel
theorem dX6_undo_29 : decode cX6_undo 29 = .ok (.getfield 159, 3) := by decide +kernel
theorem dX6_undo_32 : decode cX6_undo 32 = .ok (.ireturn, 1) := by decide +kernel
theorem dX6_wagon_0 : decode cX6_wagon 0 = .ok (.aload_n 0, 1) := by decide +kernel
theorem dX6_wagon_1 : decode cX6_wagon 1 = .ok (.getfield 19, 3) := by decide +kernel
theorem dX6_wagon_4 : decode cX6_wagon 4 = .ok (.getfield 65, 3) := by decide +kernel
theorem dX6_wagon_7 : decode cX6_wagon 7 = .ok (.iload_n 1, 1) := by decide +kernel
theorem dX6_wagon_8 : decode cX6_wagon 8 = .ok (.invokevirtual 82, 3) := by decide +kernel
theorem dX6_wagon_11 : decode cX6_wagon 11 = .ok (.ifCond .ne 7, 3) := by decide +kernel
theorem dX6_wagon_14 : decode cX6_wagon 14 = .ok (.sipush (-1002), 3) := by decide +kernel
theorem dX6_wagon_17 : decode cX6_wagon 17 = .ok (.ireturn, 1) := by decide +kernel
theorem dX6_wagon_18 : decode cX6_wagon 18 = .ok (.iload_n 2, 1) := by decide +kernel
theorem dX6_wagon_19 : decode cX6_wagon 19 = .ok (.tableswitch 95 0 4 #[33, 46, 58, 70, 82], 33) := by decide +kernel
theorem dX6_wagon_52 : decode cX6_wagon 52 = .ok (.aload_n 0, 1) := by decide +kernel
theorem dX6_wagon_53 : decode cX6_wagon 53 = .ok (.getfield 19, 3) := by decide +kernel
theorem dX6_wagon_56 : decode cX6_wagon 56 = .ok (.getfield 65, 3) := by decide +kernel
theorem dX6_wagon_59 : decode cX6_wagon 59 = .ok (.getfield 88, 3) := by decide +kernel
theorem dX6_wagon_62 : decode cX6_wagon 62 = .ok (.iload_n 1, 1) := by decide +kernel
theorem dX6_wagon_63 : decode cX6_wagon 63 = .ok (.iaload, 1) := by decide +kernel
theorem dX6_wagon_64 : decode cX6_wagon 64 = .ok (.ireturn, 1) := by decide +kernel
theorem dX6_wagon_65 : decode cX6_wagon 65 = .ok (.aload_n 0, 1) := by decide +kernel
theorem dX6_wagon_66 : decode cX6_wagon 66 = .ok (.getfield 19, 3) := by decide +kernel
theorem dX6_wagon_69 : decode cX6_wagon 69 = .ok (.getfield 65, 3) := by decide +kernel
theorem dX6_wagon_72 : decode cX6_wagon 72 = .ok (.iload_n 1, 1) := by decide +kernel
theorem dX6_wagon_73 : decode cX6_wagon 73 = .ok (.invokevirtual 164, 3) := by decide +kernel
theorem dX6_wagon_76 : decode cX6_wagon 76 = .ok (.ireturn, 1) := by decide +kernel
theorem dX6_wagon_77 : decode cX6_wagon 77 = .ok (.aload_n 0, 1) := by decide +kernel
theorem dX6_wagon_78 : decode cX6_wagon 78 = .ok (.getfield 19, 3) := by decide +kernel
theorem dX6_wagon_81 : decode cX6_wagon 81 = .ok (.getfield 65, 3) := by decide +kernel
theorem dX6_wagon_84 : decode cX6_wagon 84 = .ok (.iload_n 1, 1) := by decide +kernel
theorem dX6_wagon_85 : decode cX6_wagon 85 = .ok (.invokevirtual 168, 3) := by decide +kernel
theorem dX6_wagon_88 : decode cX6_wagon 88 = .ok (.ireturn, 1) := by decide +kernel
theorem dX6_wagon_89 : decode cX6_wagon 89 = .ok (.aload_n 0, 1) := by decide +kernel
theorem dX6_wagon_90 : decode cX6_wagon 90 = .ok (.getfield 19, 3) := by decide +kernel
theorem dX6_wagon_93 : decode cX6_wagon 93 = .ok (.getfield 65, 3) := by decide +kernel
theorem dX6_wagon_96 : decode cX6_wagon 96 = .ok (.iload_n 1, 1) := by decide +kernel
theorem dX6_wagon_97 : decode cX6_wagon 97 = .ok (.invokevirtual 171, 3) := by decide +kernel
theorem dX6_wagon_100 : decode cX6_wagon 100 = .ok (.ireturn, 1) := by decide +kernel
theorem dX6_wagon_101 : decode cX6_wagon 101 = .ok (.aload_n 0, 1) := by decide +kernel
theorem dX6_wagon_102 : decode cX6_wagon 102 = .ok (.getfield 19, 3) := by decide +kernel
theorem dX6_wagon_105 : decode cX6_wagon 105 = .ok (.getfield 65, 3) := by decide +kernel
theorem dX6_wagon_108 : decode cX6_wagon 108 = .ok (.getfield 174, 3) := by decide +kernel
theorem dX6_wagon_111 : decode cX6_wagon 111 = .ok (.iload_n 1, 1) := by decide +kernel
theorem dX6_wagon_112 : decode cX6_wagon 112 = .ok (.iaload, 1) := by decide +kernel
theorem dX6_wagon_113 : decode cX6_wagon 113 = .ok (.ireturn, 1) := by decide +kernel
theorem dX6_wagon_114 : decode cX6_wagon 114 = .ok (.sipush (-1002), 3) := by decide +kernel
theorem dX6_wagon_117 : decode cX6_wagon 117 = .ok (.ireturn, 1) := by decide +kernel
theorem dX6_doorOf_0 : decode cX6_doorOf 0 = .ok (.aload_n 0, 1) := by decide +kernel
theorem dX6_doorOf_1 : decode cX6_doorOf 1 = .ok (.getfield 19, 3) := by decide +kernel
theorem dX6_doorOf_4 : decode cX6_doorOf 4 = .ok (.getfield 65, 3) := by decide +kernel
theorem dX6_doorOf_7 : decode cX6_doorOf 7 = .ok (.iload_n 1, 1) := by decide +kernel
theorem dX6_doorOf_8 : decode cX6_doorOf 8 = .ok (.iload_n 2, 1) := by decide +kernel
theorem dX6_doorOf_9 : decode cX6_doorOf 9 = .ok (.invokevirtual 94, 3) := by decide +kernel
theorem dX6_doorOf_12 : decode cX6_doorOf 12 = .ok (.ifCond .ne 7, 3) := by decide +kernel
theorem dX6_doorOf_15 : decode cX6_doorOf 15 = .ok (.sipush (-1002), 3) := by decide +kernel
theorem dX6_doorOf_18 : decode cX6_doorOf 18 = .ok (.ireturn, 1) := by decide +kernel
theorem dX6_doorOf_19 : decode cX6_doorOf 19 = .ok (.iload_n 3, 1) := by decide +kernel
theorem dX6_doorOf_20 : decode cX6_doorOf 20 = .ok (.lookupswitch 54 #[(0, 28), (1, 41)], 28) := by decide +kernel
theorem dX6_doorOf_48 : decode cX6_doorOf 48 = .ok (.aload_n 0, 1) := by decide +kernel
theorem dX6_doorOf_49 : decode cX6_doorOf 49 = .ok (.getfield 19, 3) := by decide +kernel
theorem dX6_doorOf_52 : decode cX6_doorOf 52 = .ok (.getfield 65, 3) := by decide +kernel
theorem dX6_doorOf_55 : decode cX6_doorOf 55 = .ok (.iload_n 1, 1) := by decide +kernel
theorem dX6_doorOf_56 : decode cX6_doorOf 56 = .ok (.iload_n 2, 1) := by decide +kernel
theorem dX6_doorOf_57 : decode cX6_doorOf 57 = .ok (.invokevirtual 98, 3) := by decide +kernel
theorem dX6_doorOf_60 : decode cX6_doorOf 60 = .ok (.ireturn, 1) := by decide +kernel
theorem dX6_doorOf_61 : decode cX6_doorOf 61 = .ok (.aload_n 0, 1) := by decide +kernel
theorem dX6_doorOf_62 : decode cX6_doorOf 62 = .ok (.getfield 19, 3) := by decide +kernel
theorem dX6_doorOf_65 : decode cX6_doorOf 65 = .ok (.getfield 65, 3) := by decide +kernel
theorem dX6_doorOf_68 : decode cX6_doorOf 68 = .ok (.iload_n 1, 1) := by decide +kernel
theorem dX6_doorOf_69 : decode cX6_doorOf 69 = .ok (.iload_n 2, 1) := by decide +kernel
theorem dX6_doorOf_70 : decode cX6_doorOf 70 = .ok (.invokevirtual 177, 3) := by decide +kernel
theorem dX6_doorOf_73 : decode cX6_doorOf 73 = .ok (.ireturn, 1) := by decide +kernel
theorem dX6_doorOf_74 : decode cX6_doorOf 74 = .ok (.sipush (-1002), 3) := by decide +kernel
theorem dX6_doorOf_77 : decode cX6_doorOf 77 = .ok (.ireturn, 1) := by decide +kernel
theorem dX6_height_0 : decode cX6_height 0 = .ok (.iload_n 1, 1) := by decide +kernel
theorem dX6_height_1 : decode cX6_height 1 = .ok (.iload_n 2, 1) := by decide +kernel
theorem dX6_height_2 : decode cX6_height 2 = .ok (.invokestatic 139, 3) := by decide +kernel
theorem dX6_height_5 : decode cX6_height 5 = .ok (.ifCond .eq 18, 3) := by decide +kernel
theorem dX6_height_8 : decode cX6_height 8 = .ok (.aload_n 0, 1) := by decide +kernel
theorem dX6_height_9 : decode cX6_height 9 = .ok (.getfield 19, 3) := by decide +kernel
theorem dX6_height_12 : decode cX6_height 12 = .ok (.getfield 144, 3) := by decide +kernel
theorem dX6_height_15 : decode cX6_height 15 = .ok (.iload_n 1, 1) := by decide +kernel
theorem dX6_height_16 : decode cX6_height 16 = .ok (.iload_n 2, 1) := by decide +kernel
theorem dX6_height_17 : decode cX6_height 17 = .ok (.invokevirtual 148, 3) := by decide +kernel
theorem dX6_height_20 : decode cX6_height 20 = .ok (.goto 6, 3) := by decide +kernel
theorem dX6_height_23 : decode cX6_height 23 = .ok (.sipush (-1002), 3) := by decide +kernel
theorem dX6_height_26 : decode cX6_height 26 = .ok (.ireturn, 1) := by decide +kernel
theorem dX6_count_0 : decode cX6_count 0 = .ok (.iload_n 1, 1) := by decide +kernel
theorem dX6_count_1 : decode cX6_count 1 = .ok (.bipush 14, 2) := by decide +kernel
theorem dX6_count_3 : decode cX6_count 3 = .ok (.bipush 18, 2) := by decide +kernel
theorem dX6_count_5 : decode cX6_count 5 = .ok (.invokestatic 33, 3) := by decide +kernel
theorem dX6_count_8 : decode cX6_count 8 = .ok (.ifCond .eq 16, 3) := by decide +kernel
theorem dX6_count_11 : decode cX6_count 11 = .ok (.aload_n 0, 1) := by decide +kernel
theorem dX6_count_12 : decode cX6_count 12 = .ok (.getfield 19, 3) := by decide +kernel
theorem dX6_count_15 : decode cX6_count 15 = .ok (.getfield 62, 3) := by decide +kernel
theorem dX6_count_18 : decode cX6_count 18 = .ok (.iload_n 1, 1) := by decide +kernel
theorem dX6_count_19 : decode cX6_count 19 = .ok (.bipush 14, 2) := by decide +kernel
theorem dX6_count_21 : decode cX6_count 21 = .ok (.isub, 1) := by decide +kernel
theorem dX6_count_22 : decode cX6_count 22 = .ok (.iaload, 1) := by decide +kernel
theorem dX6_count_23 : decode cX6_count 23 = .ok (.ireturn, 1) := by decide +kernel
theorem dX6_count_24 : decode cX6_count 24 = .ok (.iload_n 1, 1) := by decide +kernel
theorem dX6_count_25 : decode cX6_count 25 = .ok (.tableswitch 204 0 13 #[71, 82, 93, 104, 115, 123, 134, 142, 150, 161, 172, 180, 188, 196], 71) := by decide +kernel
theorem dX6_count_96 : decode cX6_count 96 = .ok (.aload_n 0, 1) := by decide +kernel
theorem dX6_count_97 : decode cX6_count 97 = .ok (.getfield 19, 3) := by decide +kernel
theorem dX6_count_100 : decode cX6_count 100 = .ok (.getfield 65, 3) := by decide +kernel
theorem dX6_count_103 : decode cX6_count 103 = .ok (.getfield 223, 3) := by decide +kernel
theorem dX6_count_106 : decode cX6_count 106 = .ok (.ireturn, 1) := by decide +kernel
theorem dX6_count_107 : decode cX6_count 107 = .ok (.aload_n 0, 1) := by decide +kernel
theorem dX6_count_108 : decode cX6_count 108 = .ok (.getfield 19, 3) := by decide +kernel
theorem dX6_count_111 : decode cX6_count 111 = .ok (.getfield 65, 3) := by decide +kernel
theorem dX6_count_114 : decode cX6_count 114 = .ok (.getfield 136, 3) := by decide +kernel
theorem dX6_count_117 : decode cX6_count 117 = .ok (.ireturn, 1) := by decide +kernel
theorem dX6_count_118 : decode cX6_count 118 = .ok (.aload_n 0, 1) := by decide +kernel
theorem dX6_count_119 : decode cX6_count 119 = .ok (.getfield 19, 3) := by decide +kernel
theorem dX6_count_122 : decode cX6_count 122 = .ok (.getfield 65, 3) := by decide +kernel
theorem dX6_count_125 : decode cX6_count 125 = .ok (.getfield 85, 3) := by decide +kernel
theorem dX6_count_128 : decode cX6_count 128 = .ok (.ireturn, 1) := by decide +kernel
theorem dX6_count_129 : decode cX6_count 129 = .ok (.aload_n 0, 1) := by decide +kernel
theorem dX6_count_130 : decode cX6_count 130 = .ok (.getfield 19, 3) := by decide +kernel
theorem dX6_count_133 : decode cX6_count 133 = .ok (.getfield 65, 3) := by decide +kernel
theorem dX6_count_136 : decode cX6_count 136 = .ok (.getfield 109, 3) := by decide +kernel
theorem dX6_count_139 : decode cX6_count 139 = .ok (.ireturn, 1) := by decide +kernel
theorem dX6_count_140 : decode cX6_count 140 = .ok (.aload_n 0, 1) := by decide +kernel
theorem dX6_count_141 : decode cX6_count 141 = .ok (.getfield 19, 3) := by decide +kernel
theorem dX6_count_144 : decode cX6_count 144 = .ok (.getfield 130, 3) := by decide +kernel
theorem dX6_count_147 : decode cX6_count 147 = .ok (.ireturn, 1) := by decide +kernel
theorem dX6_count_148 : decode cX6_count 148 = .ok (.aload_n 0, 1) := by decide +kernel
theorem dX6_count_149 : decode cX6_count 149 = .ok (.getfield 19, 3) := by decide +kernel
theorem dX6_count_152 : decode cX6_count 152 = .ok (.getfield 112, 3) := by decide +kernel
theorem dX6_count_155 : decode cX6_count 155 = .ok (.invokevirtual 116, 3) := by decide +kernel
theorem dX6_count_158 : decode cX6_count 158 = .ok (.ireturn, 1) := by decide +kernel
theorem dX6_count_159 : decode cX6_count 159 = .ok (.aload_n 0, 1) := by decide +kernel
theorem dX6_count_160 : decode cX6_count 160 = .ok (.getfield 19, 3) := by decide +kernel
theorem dX6_count_163 : decode cX6_count 163 = .ok (.getfield 226, 3) := by decide +kernel
theorem dX6_count_166 : decode cX6_count 166 = .ok (.ireturn, 1) := by decide +kernel
theorem dX6_count_167 : decode cX6_count 167 = .ok (.aload_n 0, 1) := by decide +kernel
theorem dX6_count_168 : decode cX6_count 168 = .ok (.getfield 19, 3) := by decide +kernel
theorem dX6_count_171 : decode cX6_count 171 = .ok (.getfield 91, 3) := by decide +kernel
theorem dX6_count_174 : decode cX6_count 174 = .ok (.ireturn, 1) := by decide +kernel
theorem dX6_count_175 : decode cX6_count 175 = .ok (.aload_n 0, 1) := by decide +kernel
theorem dX6_count_176 : decode cX6_count 176 = .ok (.getfield 19, 3) := by decide +kernel
theorem dX6_count_179 : decode cX6_count 179 = .ok (.getfield 65, 3) := by decide +kernel
theorem dX6_count_182 : decode cX6_count 182 = .ok (.invokevirtual 69, 3) := by decide +kernel
theorem dX6_count_185 : decode cX6_count 185 = .ok (.ireturn, 1) := by decide +kernel
theorem dX6_count_186 : decode cX6_count 186 = .ok (.aload_n 0, 1) := by decide +kernel
theorem dX6_count_187 : decode cX6_count 187 = .ok (.getfield 19, 3) := by decide +kernel
theorem dX6_count_190 : decode cX6_count 190 = .ok (.getfield 144, 3) := by decide +kernel
theorem dX6_count_193 : decode cX6_count 193 = .ok (.invokevirtual 229, 3) := by decide +kernel
theorem dX6_count_196 : decode cX6_count 196 = .ok (.ireturn, 1) := by decide +kernel
theorem dX6_count_197 : decode cX6_count 197 = .ok (.aload_n 0, 1) := by decide +kernel
theorem dX6_count_198 : decode cX6_count 198 = .ok (.getfield 19, 3) := by decide +kernel
theorem dX6_count_201 : decode cX6_count 201 = .ok (.getfield 230, 3) := by decide +kernel
theorem dX6_count_204 : decode cX6_count 204 = .ok (.ireturn, 1) := by decide +kernel
theorem dX6_count_205 : decode cX6_count 205 = .ok (.aload_n 0, 1) := by decide +kernel
theorem dX6_count_206 : decode cX6_count 206 = .ok (.getfield 19, 3) := by decide +kernel
theorem dX6_count_209 : decode cX6_count 209 = .ok (.getfield 79, 3) := by decide +kernel
theorem dX6_count_212 : decode cX6_count 212 = .ok (.ireturn, 1) := by decide +kernel
theorem dX6_count_213 : decode cX6_count 213 = .ok (.aload_n 0, 1) := by decide +kernel
theorem dX6_count_214 : decode cX6_count 214 = .ok (.getfield 29, 3) := by decide +kernel
theorem dX6_count_217 : decode cX6_count 217 = .ok (.getfield 159, 3) := by decide +kernel
theorem dX6_count_220 : decode cX6_count 220 = .ok (.ireturn, 1) := by decide +kernel
theorem dX6_count_221 : decode cX6_count 221 = .ok (.aload_n 0, 1) := by decide +kernel
theorem dX6_count_222 : decode cX6_count 222 = .ok (.getfield 10, 3) := by decide +kernel
theorem dX6_count_225 : decode cX6_count 225 = .ok (.getfield 41, 3) := by decide +kernel
theorem dX6_count_228 : decode cX6_count 228 = .ok (.ireturn, 1) := by decide +kernel
theorem dX6_count_229 : decode cX6_count 229 = .ok (.sipush (-1002), 3) := by decide +kernel
theorem dX6_count_232 : decode cX6_count 232 = .ok (.ireturn, 1) := by decide +kernel
theorem dX6_isWithin_0 : decode cX6_isWithin 0 = .ok (.iload_n 0, 1) := by decide +kernel
theorem dX6_isWithin_1 : decode cX6_isWithin 1 = .ok (.iload_n 1, 1) := by decide +kernel
theorem dX6_isWithin_2 : decode cX6_isWithin 2 = .ok (.if_icmp .lt 12, 3) := by decide +kernel
theorem dX6_isWithin_5 : decode cX6_isWithin 5 = .ok (.iload_n 0, 1) := by decide +kernel
theorem dX6_isWithin_6 : decode cX6_isWithin 6 = .ok (.iload_n 2, 1) := by decide +kernel
theorem dX6_isWithin_7 : decode cX6_isWithin 7 = .ok (.if_icmp .gt 7, 3) := by decide +kernel
theorem dX6_isWithin_10 : decode cX6_isWithin 10 = .ok (.iconst 1, 1) := by decide +kernel
theorem dX6_isWithin_11 : decode cX6_isWithin 11 = .ok (.goto 4, 3) := by decide +kernel
theorem dX6_isWithin_14 : decode cX6_isWithin 14 = .ok (.iconst 0, 1) := by decide +kernel
theorem dX6_isWithin_15 : decode cX6_isWithin 15 = .ok (.ireturn, 1) := by decide +kernel
theorem dX6_sum_0 : decode cX6_sum 0 = .ok (.iconst 0, 1) := by decide +kernel
theorem dX6_sum_1 : decode cX6_sum 1 = .ok (.istore_n 1, 1) := by decide +kernel
theorem dX6_sum_2 : decode cX6_sum 2 = .ok (.aload_n 0, 1) := by decide +kernel
theorem dX6_sum_3 : decode cX6_sum 3 = .ok (.astore_n 2, 1) := by decide +kernel
theorem dX6_sum_4 : decode cX6_sum 4 = .ok (.aload_n 2, 1) := by decide +kernel
theorem dX6_sum_5 : decode cX6_sum 5 = .ok (.arraylength, 1) := by decide +kernel
theorem dX6_sum_6 : decode cX6_sum 6 = .ok (.istore_n 3, 1) := by decide +kernel
theorem dX6_sum_7 : decode cX6_sum 7 = .ok (.iconst 0, 1) := by decide +kernel
theorem dX6_sum_8 : decode cX6_sum 8 = .ok (.istore 4, 2) := by decide +kernel
theorem dX6_sum_10 : decode cX6_sum 10 = .ok (.iload 4, 2) := by decide +kernel
theorem dX6_sum_12 : decode cX6_sum 12 = .ok (.iload_n 3, 1) := by decide +kernel
theorem dX6_sum_13 : decode cX6_sum 13 = .ok (.if_icmp .ge 20, 3) := by decide +kernel
theorem dX6_sum_16 : decode cX6_sum 16 = .ok (.aload_n 2, 1) := by decide +kernel
theorem dX6_sum_17 : decode cX6_sum 17 = .ok (.iload 4, 2) := by decide +kernel
theorem dX6_sum_19 : decode cX6_sum 19 = .ok (.iaload, 1) := by decide +kernel
theorem dX6_sum_20 : decode cX6_sum 20 = .ok (.istore 5, 2) := by decide +kernel
theorem dX6_sum_22 : decode cX6_sum 22 = .ok (.iload_n 1, 1) := by decide +kernel
theorem dX6_sum_23 : decode cX6_sum 23 = .ok (.iload 5, 2) := by decide +kernel
theorem dX6_sum_25 : decode cX6_sum 25 = .ok (.iadd, 1) := by decide +kernel
theorem dX6_sum_26 : decode cX6_sum 26 = .ok (.istore_n 1, 1) := by decide +kernel
theorem dX6_sum_27 : decode cX6_sum 27 = .ok (.iinc 4 1, 3) := by decide +kernel
theorem dX6_sum_30 : decode cX6_sum 30 = .ok (.goto (-20), 3) := by decide +kernel
theorem dX6_sum_33 : decode cX6_sum 33 = .ok (.iload_n 1, 1) := by decide +kernel
theorem dX6_sum_34 : decode cX6_sum 34 = .ok (.ireturn, 1) := by decide +kernel
theorem dX6_copyRow_0 : decode cX6_copyRow 0 = .ok (.aload_n 0, 1) := by decide +kernel
theorem dX6_copyRow_1 : decode cX6_copyRow 1 = .ok (.iconst 0, 1) := by decide +kernel
theorem dX6_copyRow_2 : decode cX6_copyRow 2 = .ok (.aload_n 1, 1) := by decide +kernel
theorem dX6_copyRow_3 : decode cX6_copyRow 3 = .ok (.iconst 0, 1) := by decide +kernel
theorem dX6_copyRow_4 : decode cX6_copyRow 4 = .ok (.aload_n 0, 1) := by decide +kernel
theorem dX6_copyRow_5 : decode cX6_copyRow 5 = .ok (.arraylength, 1) := by decide +kernel
theorem dX6_copyRow_6 : decode cX6_copyRow 6 = .ok (.aload_n 1, 1) := by decide +kernel
theorem dX6_copyRow_7 : decode cX6_copyRow 7 = .ok (.arraylength, 1) := by decide +kernel
theorem dX6_copyRow_8 : decode cX6_copyRow 8 = .ok (.invokestatic 151, 3) := by decide +kernel
theorem dX6_copyRow_11 : decode cX6_copyRow 11 = .ok (.invokestatic 279, 3) := by decide +kernel
theorem dX6_copyRow_14 : decode cX6_copyRow 14 = .ok (.return_, 1) := by decide +kernel
theorem dX6_addAll_0 : decode cX6_addAll 0 = .ok (.iconst 0, 1) := by decide +kernel
theorem dX6_addAll_1 : decode cX6_addAll 1 = .ok (.istore_n 2, 1) := by decide +kernel
theorem dX6_addAll_2 : decode cX6_addAll 2 = .ok (.iload_n 2, 1) := by decide +kernel
theorem dX6_addAll_3 : decode cX6_addAll 3 = .ok (.aload_n 0, 1) := by decide +kernel
theorem dX6_addAll_4 : decode cX6_addAll 4 = .ok (.invokevirtual 116, 3) := by decide +kernel
theorem dX6_addAll_7 : decode cX6_addAll 7 = .ok (.if_icmp .ge 22, 3) := by decide +kernel
theorem dX6_addAll_10 : decode cX6_addAll 10 = .ok (.aload_n 1, 1) := by decide +kernel
theorem dX6_addAll_11 : decode cX6_addAll 11 = .ok (.aload_n 0, 1) := by decide +kernel
theorem dX6_addAll_12 : decode cX6_addAll 12 = .ok (.iload_n 2, 1) := by decide +kernel
theorem dX6_addAll_13 : decode cX6_addAll 13 = .ok (.invokevirtual 203, 3) := by decide +kernel
theorem dX6_addAll_16 : decode cX6_addAll 16 = .ok (.checkcast 206, 3) := by decide +kernel
theorem dX6_addAll_19 : decode cX6_addAll 19 = .ok (.invokevirtual 285, 3) := by decide +kernel
theorem dX6_addAll_22 : decode cX6_addAll 22 = .ok (.pop, 1) := by decide +kernel
theorem dX6_addAll_23 : decode cX6_addAll 23 = .ok (.iinc 2 1, 3) := by decide +kernel
theorem dX6_addAll_26 : decode cX6_addAll 26 = .ok (.goto (-24), 3) := by decide +kernel
theorem dX6_addAll_29 : decode cX6_addAll 29 = .ok (.return_, 1) := by decide +kernel
theorem dJ9_floorMod_7cf53_0 : decode cJ9_floorMod_7cf53 0 = .ok (.iload_n 0, 1) := by decide +kernel
theorem dJ9_floorMod_7cf53_1 : decode cJ9_floorMod_7cf53 1 = .ok (.iload_n 1, 1) := by decide +kernel
theorem dJ9_floorMod_7cf53_2 : decode cJ9_floorMod_7cf53 2 = .ok (.irem, 1) := by decide +kernel
theorem dJ9_floorMod_7cf53_3 : decode cJ9_floorMod_7cf53 3 = .ok (.istore_n 2, 1) := by decide +kernel
theorem dJ9_floorMod_7cf53_4 : decode cJ9_floorMod_7cf53 4 = .ok (.iload_n 0, 1) := by decide +kernel
theorem dJ9_floorMod_7cf53_5 : decode cJ9_floorMod_7cf53 5 = .ok (.iload_n 1, 1) := by decide +kernel
theorem dJ9_floorMod_7cf53_6 : decode cJ9_floorMod_7cf53 6 = .ok (.ixor, 1) := by decide +kernel
theorem dJ9_floorMod_7cf53_7 : decode cJ9_floorMod_7cf53 7 = .ok (.ifCond .ge 11, 3) := by decide +kernel
theorem dJ9_floorMod_7cf53_10 : decode cJ9_floorMod_7cf53 10 = .ok (.iload_n 2, 1) := by decide +kernel
theorem dJ9_floorMod_7cf53_11 : decode cJ9_floorMod_7cf53 11 = .ok (.ifCond .eq 7, 3) := by decide +kernel
theorem dJ9_floorMod_7cf53_14 : decode cJ9_floorMod_7cf53 14 = .ok (.iload_n 2, 1) := by decide +kernel
theorem dJ9_floorMod_7cf53_15 : decode cJ9_floorMod_7cf53 15 = .ok (.iload_n 1, 1) := by decide +kernel
theorem dJ9_floorMod_7cf53_16 : decode cJ9_floorMod_7cf53 16 = .ok (.iadd, 1) := by decide +kernel
theorem dJ9_floorMod_7cf53_17 : decode cJ9_floorMod_7cf53 17 = .ok (.ireturn, 1) := by decide +kernel
theorem dJ9_floorMod_7cf53_18 : decode cJ9_floorMod_7cf53 18 = .ok (.iload_n 2, 1) := by decide +kernel
theorem dJ9_floorMod_7cf53_19 : decode cJ9_floorMod_7cf53 19 = .ok (.ireturn, 1) := by decide +kernel
theorem dJ9_max_7cf53_0 : decode cJ9_max_7cf53 0 = .ok (.iload_n 0, 1) := by decide +kernel
theorem dJ9_max_7cf53_1 : decode cJ9_max_7cf53 1 = .ok (.iload_n 1, 1) := by decide +kernel
theorem dJ9_max_7cf53_2 : decode cJ9_max_7cf53 2 = .ok (.if_icmp .lt 7, 3) := by decide +kernel
theorem dJ9_max_7cf53_5 : decode cJ9_max_7cf53 5 = .ok (.iload_n 0, 1) := by decide +kernel
theorem dJ9_max_7cf53_6 : decode cJ9_max_7cf53 6 = .ok (.goto 4, 3) := by decide +kernel
theorem dJ9_max_7cf53_9 : decode cJ9_max_7cf53 9 = .ok (.iload_n 1, 1) := by decide +kernel
theorem dJ9_max_7cf53_10 : decode cJ9_max_7cf53 10 = .ok (.ireturn, 1) := by decide +kernel
theorem dJ9_min_7cf53_0 : decode cJ9_min_7cf53 0 = .ok (.iload_n 0, 1) := by decide +kernel
theorem dJ9_min_7cf53_1 : decode cJ9_min_7cf53 1 = .ok (.iload_n 1, 1) := by decide +kernel
theorem dJ9_min_7cf53_2 : decode cJ9_min_7cf53 2 = .ok (.if_icmp .gt 7, 3) := by decide +kernel
theorem dJ9_min_7cf53_5 : decode cJ9_min_7cf53 5 = .ok (.iload_n 0, 1) := by decide +kernel
theorem dJ9_min_7cf53_6 : decode cJ9_min_7cf53 6 = .ok (.goto 4, 3) := by decide +kernel
theorem dJ9_min_7cf53_9 : decode cJ9_min_7cf53 9 = .ok (.iload_n 1, 1) := by decide +kernel
theorem dJ9_min_7cf53_10 : decode cJ9_min_7cf53 10 = .ok (.ireturn, 1) := by decide +kernel
theorem dJxa1e45_init_da8c8_0 : decode cJxa1e45_init_da8c8 0 = .ok (.aload_n 0, 1) := by decide +kernel
theorem dJxa1e45_init_da8c8_1 : decode cJxa1e45_init_da8c8 1 = .ok (.invokespecial 1, 3) := by decide +kernel
theorem dJxa1e45_init_da8c8_4 : decode cJxa1e45_init_da8c8 4 = .ok (.return_, 1) := by decide +kernel
theorem dJxc12de_init_da8c8_0 : decode cJxc12de_init_da8c8 0 = .ok (.aload_n 0, 1) := by decide +kernel
theorem dJxc12de_init_da8c8_1 : decode cJxc12de_init_da8c8 1 = .ok (.invokespecial 1, 3) := by decide +kernel
theorem dJxc12de_init_da8c8_4 : decode cJxc12de_init_da8c8 4 = .ok (.aload_n 0, 1) := by decide +kernel
theorem dJxc12de_init_da8c8_5 : decode cJxc12de_init_da8c8 5 = .ok (.iconst 0, 1) := by decide +kernel
theorem dJxc12de_init_da8c8_6 : decode cJxc12de_init_da8c8 6 = .ok (.putfield 7, 3) := by decide +kernel
theorem dJxc12de_init_da8c8_9 : decode cJxc12de_init_da8c8 9 = .ok (.return_, 1) := by decide +kernel
theorem dJx4a65c_init_da8c8_0 : decode cJx4a65c_init_da8c8 0 = .ok (.aload_n 0, 1) := by decide +kernel
theorem dJx4a65c_init_da8c8_1 : decode cJx4a65c_init_da8c8 1 = .ok (.invokespecial 1, 3) := by decide +kernel
theorem dJx4a65c_init_da8c8_4 : decode cJx4a65c_init_da8c8 4 = .ok (.aload_n 0, 1) := by decide +kernel
theorem dJx4a65c_init_da8c8_5 : decode cJx4a65c_init_da8c8 5 = .ok (.getstatic 39, 3) := by decide +kernel
theorem dJx4a65c_init_da8c8_8 : decode cJx4a65c_init_da8c8 8 = .ok (.putfield 9, 3) := by decide +kernel
theorem dJx4a65c_init_da8c8_11 : decode cJx4a65c_init_da8c8 11 = .ok (.return_, 1) := by decide +kernel
theorem dJx4a65c_grow_92f84_0 : decode cJx4a65c_grow_92f84 0 = .ok (.aload_n 0, 1) := by decide +kernel
theorem dJx4a65c_grow_92f84_1 : decode cJx4a65c_grow_92f84 1 = .ok (.getfield 9, 3) := by decide +kernel
theorem dJx4a65c_grow_92f84_4 : decode cJx4a65c_grow_92f84 4 = .ok (.arraylength, 1) := by decide +kernel
theorem dJx4a65c_grow_92f84_5 : decode cJx4a65c_grow_92f84 5 = .ok (.istore_n 2, 1) := by decide +kernel
theorem dJx4a65c_grow_92f84_6 : decode cJx4a65c_grow_92f84 6 = .ok (.iload_n 2, 1) := by decide +kernel
theorem dJx4a65c_grow_92f84_7 : decode cJx4a65c_grow_92f84 7 = .ok (.ifCond .gt 13, 3) := by decide +kernel
theorem dJx4a65c_grow_92f84_10 : decode cJx4a65c_grow_92f84 10 = .ok (.aload_n 0, 1) := by decide +kernel
theorem dJx4a65c_grow_92f84_11 : decode cJx4a65c_grow_92f84 11 = .ok (.getfield 9, 3) := by decide +kernel
theorem dJx4a65c_grow_92f84_14 : decode cJx4a65c_grow_92f84 14 = .ok (.getstatic 39, 3) := by decide +kernel
theorem dJx4a65c_grow_92f84_17 : decode cJx4a65c_grow_92f84 17 = .ok (.if_acmp .eq 28, 3) := by decide +kernel
theorem dJx4a65c_grow_92f84_20 : decode cJx4a65c_grow_92f84 20 = .ok (.iload_n 2, 1) := by decide +kernel
theorem dJx4a65c_grow_92f84_21 : decode cJx4a65c_grow_92f84 21 = .ok (.iload_n 1, 1) := by decide +kernel
theorem dJx4a65c_grow_92f84_22 : decode cJx4a65c_grow_92f84 22 = .ok (.iload_n 2, 1) := by decide +kernel
theorem dJx4a65c_grow_92f84_23 : decode cJx4a65c_grow_92f84 23 = .ok (.isub, 1) := by decide +kernel
theorem dJx4a65c_grow_92f84_24 : decode cJx4a65c_grow_92f84 24 = .ok (.iload_n 2, 1) := by decide +kernel
theorem dJx4a65c_grow_92f84_25 : decode cJx4a65c_grow_92f84 25 = .ok (.iconst 1, 1) := by decide +kernel
theorem dJx4a65c_grow_92f84_26 : decode cJx4a65c_grow_92f84 26 = .ok (.ishr, 1) := by decide +kernel
theorem dJx4a65c_grow_92f84_27 : decode cJx4a65c_grow_92f84 27 = .ok (.invokestatic 73, 3) := by decide +kernel
theorem dJx4a65c_grow_92f84_30 : decode cJx4a65c_grow_92f84 30 = .ok (.istore_n 3, 1) := by decide +kernel
theorem dJx4a65c_grow_92f84_31 : decode cJx4a65c_grow_92f84 31 = .ok (.aload_n 0, 1) := by decide +kernel
theorem dJx4a65c_grow_92f84_32 : decode cJx4a65c_grow_92f84 32 = .ok (.aload_n 0, 1) := by decide +kernel
theorem dJx4a65c_grow_92f84_33 : decode cJx4a65c_grow_92f84 33 = .ok (.getfield 9, 3) := by decide +kernel
theorem dJx4a65c_grow_92f84_36 : decode cJx4a65c_grow_92f84 36 = .ok (.iload_n 3, 1) := by decide +kernel
theorem dJx4a65c_grow_92f84_37 : decode cJx4a65c_grow_92f84 37 = .ok (.invokestatic 66, 3) := by decide +kernel
theorem dJx4a65c_grow_92f84_40 : decode cJx4a65c_grow_92f84 40 = .ok (.dup_x1, 1) := by decide +kernel
theorem dJx4a65c_grow_92f84_41 : decode cJx4a65c_grow_92f84 41 = .ok (.putfield 9, 3) := by decide +kernel
theorem dJx4a65c_grow_92f84_44 : decode cJx4a65c_grow_92f84 44 = .ok (.areturn, 1) := by decide +kernel
theorem dJx4a65c_grow_92f84_45 : decode cJx4a65c_grow_92f84 45 = .ok (.aload_n 0, 1) := by decide +kernel
theorem dJx4a65c_grow_92f84_46 : decode cJx4a65c_grow_92f84 46 = .ok (.bipush 10, 2) := by decide +kernel
theorem dJx4a65c_grow_92f84_48 : decode cJx4a65c_grow_92f84 48 = .ok (.iload_n 1, 1) := by decide +kernel
theorem dJx4a65c_grow_92f84_49 : decode cJx4a65c_grow_92f84 49 = .ok (.invokestatic 79, 3) := by decide +kernel
theorem dJx4a65c_grow_92f84_52 : decode cJx4a65c_grow_92f84 52 = .ok (.anewarray 7, 3) := by decide +kernel
theorem dJx4a65c_grow_92f84_55 : decode cJx4a65c_grow_92f84 55 = .ok (.dup_x1, 1) := by decide +kernel
theorem dJx4a65c_grow_92f84_56 : decode cJx4a65c_grow_92f84 56 = .ok (.putfield 9, 3) := by decide +kernel
theorem dJx4a65c_grow_92f84_59 : decode cJx4a65c_grow_92f84 59 = .ok (.areturn, 1) := by decide +kernel
theorem dJx4a65c_grow_d5877_0 : decode cJx4a65c_grow_d5877 0 = .ok (.aload_n 0, 1) := by decide +kernel
theorem dJx4a65c_grow_d5877_1 : decode cJx4a65c_grow_d5877 1 = .ok (.aload_n 0, 1) := by decide +kernel
theorem dJx4a65c_grow_d5877_2 : decode cJx4a65c_grow_d5877 2 = .ok (.getfield 48, 3) := by decide +kernel
theorem dJx4a65c_grow_d5877_5 : decode cJx4a65c_grow_d5877 5 = .ok (.iconst 1, 1) := by decide +kernel
theorem dJx4a65c_grow_d5877_6 : decode cJx4a65c_grow_d5877 6 = .ok (.iadd, 1) := by decide +kernel
theorem dJx4a65c_grow_d5877_7 : decode cJx4a65c_grow_d5877 7 = .ok (.invokevirtual 69, 3) := by decide +kernel
theorem dJx4a65c_grow_d5877_10 : decode cJx4a65c_grow_d5877 10 = .ok (.areturn, 1) := by decide +kernel
theorem dJx4a65c_size_8abf5_0 : decode cJx4a65c_size_8abf5 0 = .ok (.aload_n 0, 1) := by decide +kernel
theorem dJx4a65c_size_8abf5_1 : decode cJx4a65c_size_8abf5 1 = .ok (.getfield 48, 3) := by decide +kernel
theorem dJx4a65c_size_8abf5_4 : decode cJx4a65c_size_8abf5 4 = .ok (.ireturn, 1) := by decide +kernel
theorem dJx4a65c_elementData_915e3_0 : decode cJx4a65c_elementData_915e3 0 = .ok (.aload_n 0, 1) := by decide +kernel
theorem dJx4a65c_elementData_915e3_1 : decode cJx4a65c_elementData_915e3 1 = .ok (.getfield 9, 3) := by decide +kernel
theorem dJx4a65c_elementData_915e3_4 : decode cJx4a65c_elementData_915e3 4 = .ok (.iload_n 1, 1) := by decide +kernel
theorem dJx4a65c_elementData_915e3_5 : decode cJx4a65c_elementData_915e3 5 = .ok (.aaload, 1) := by decide +kernel
theorem dJx4a65c_elementData_915e3_6 : decode cJx4a65c_elementData_915e3 6 = .ok (.areturn, 1) := by decide +kernel
theorem dJx4a65c_get_915e3_0 : decode cJx4a65c_get_915e3 0 = .ok (.iload_n 1, 1) := by decide +kernel
theorem dJx4a65c_get_915e3_1 : decode cJx4a65c_get_915e3 1 = .ok (.aload_n 0, 1) := by decide +kernel
theorem dJx4a65c_get_915e3_2 : decode cJx4a65c_get_915e3 2 = .ok (.getfield 48, 3) := by decide +kernel
theorem dJx4a65c_get_915e3_5 : decode cJx4a65c_get_915e3 5 = .ok (.invokestatic 118, 3) := by decide +kernel
theorem dJx4a65c_get_915e3_8 : decode cJx4a65c_get_915e3 8 = .ok (.pop, 1) := by decide +kernel
theorem dJx4a65c_get_915e3_9 : decode cJx4a65c_get_915e3 9 = .ok (.aload_n 0, 1) := by decide +kernel
theorem dJx4a65c_get_915e3_10 : decode cJx4a65c_get_915e3 10 = .ok (.iload_n 1, 1) := by decide +kernel
theorem dJx4a65c_get_915e3_11 : decode cJx4a65c_get_915e3 11 = .ok (.invokevirtual 123, 3) := by decide +kernel
theorem dJx4a65c_get_915e3_14 : decode cJx4a65c_get_915e3 14 = .ok (.areturn, 1) := by decide +kernel
theorem dJx4a65c_set_bcc79_0 : decode cJx4a65c_set_bcc79 0 = .ok (.iload_n 1, 1) := by decide +kernel
theorem dJx4a65c_set_bcc79_1 : decode cJx4a65c_set_bcc79 1 = .ok (.aload_n 0, 1) := by decide +kernel
theorem dJx4a65c_set_bcc79_2 : decode cJx4a65c_set_bcc79 2 = .ok (.getfield 48, 3) := by decide +kernel
theorem dJx4a65c_set_bcc79_5 : decode cJx4a65c_set_bcc79 5 = .ok (.invokestatic 118, 3) := by decide +kernel
theorem dJx4a65c_set_bcc79_8 : decode cJx4a65c_set_bcc79 8 = .ok (.pop, 1) := by decide +kernel
theorem dJx4a65c_set_bcc79_9 : decode cJx4a65c_set_bcc79 9 = .ok (.aload_n 0, 1) := by decide +kernel
theorem dJx4a65c_set_bcc79_10 : decode cJx4a65c_set_bcc79 10 = .ok (.iload_n 1, 1) := by decide +kernel
theorem dJx4a65c_set_bcc79_11 : decode cJx4a65c_set_bcc79 11 = .ok (.invokevirtual 123, 3) := by decide +kernel
theorem dJx4a65c_set_bcc79_14 : decode cJx4a65c_set_bcc79 14 = .ok (.astore_n 3, 1) := by decide +kernel
theorem dJx4a65c_set_bcc79_15 : decode cJx4a65c_set_bcc79 15 = .ok (.aload_n 0, 1) := by decide +kernel
theorem dJx4a65c_set_bcc79_16 : decode cJx4a65c_set_bcc79 16 = .ok (.getfield 9, 3) := by decide +kernel
theorem dJx4a65c_set_bcc79_19 : decode cJx4a65c_set_bcc79 19 = .ok (.iload_n 1, 1) := by decide +kernel
theorem dJx4a65c_set_bcc79_20 : decode cJx4a65c_set_bcc79 20 = .ok (.aload_n 2, 1) := by decide +kernel
theorem dJx4a65c_set_bcc79_21 : decode cJx4a65c_set_bcc79 21 = .ok (.aastore, 1) := by decide +kernel
theorem dJx4a65c_set_bcc79_22 : decode cJx4a65c_set_bcc79 22 = .ok (.aload_n 3, 1) := by decide +kernel
theorem dJx4a65c_set_bcc79_23 : decode cJx4a65c_set_bcc79 23 = .ok (.areturn, 1) := by decide +kernel
theorem dJx4a65c_add_72be8_0 : decode cJx4a65c_add_72be8 0 = .ok (.iload_n 3, 1) := by decide +kernel
theorem dJx4a65c_add_72be8_1 : decode cJx4a65c_add_72be8 1 = .ok (.aload_n 2, 1) := by decide +kernel
theorem dJx4a65c_add_72be8_2 : decode cJx4a65c_add_72be8 2 = .ok (.arraylength, 1) := by decide +kernel
theorem dJx4a65c_add_72be8_3 : decode cJx4a65c_add_72be8 3 = .ok (.if_icmp .ne 8, 3) := by decide +kernel
theorem dJx4a65c_add_72be8_6 : decode cJx4a65c_add_72be8 6 = .ok (.aload_n 0, 1) := by decide +kernel
theorem dJx4a65c_add_72be8_7 : decode cJx4a65c_add_72be8 7 = .ok (.invokevirtual 129, 3) := by decide +kernel
theorem dJx4a65c_add_72be8_10 : decode cJx4a65c_add_72be8 10 = .ok (.astore_n 2, 1) := by decide +kernel
theorem dJx4a65c_add_72be8_11 : decode cJx4a65c_add_72be8 11 = .ok (.aload_n 2, 1) := by decide +kernel
theorem dJx4a65c_add_72be8_12 : decode cJx4a65c_add_72be8 12 = .ok (.iload_n 3, 1) := by decide +kernel
theorem dJx4a65c_add_72be8_13 : decode cJx4a65c_add_72be8 13 = .ok (.aload_n 1, 1) := by decide +kernel
theorem dJx4a65c_add_72be8_14 : decode cJx4a65c_add_72be8 14 = .ok (.aastore, 1) := by decide +kernel
theorem dJx4a65c_add_72be8_15 : decode cJx4a65c_add_72be8 15 = .ok (.aload_n 0, 1) := by decide +kernel
theorem dJx4a65c_add_72be8_16 : decode cJx4a65c_add_72be8 16 = .ok (.iload_n 3, 1) := by decide +kernel
theorem dJx4a65c_add_72be8_17 : decode cJx4a65c_add_72be8 17 = .ok (.iconst 1, 1) := by decide +kernel
theorem dJx4a65c_add_72be8_18 : decode cJx4a65c_add_72be8 18 = .ok (.iadd, 1) := by decide +kernel
theorem dJx4a65c_add_72be8_19 : decode cJx4a65c_add_72be8 19 = .ok (.putfield 48, 3) := by decide +kernel
theorem dJx4a65c_add_72be8_22 : decode cJx4a65c_add_72be8 22 = .ok (.return_, 1) := by decide +kernel
theorem dJx4a65c_add_9ea2d_0 : decode cJx4a65c_add_9ea2d 0 = .ok (.aload_n 0, 1) := by decide +kernel
theorem dJx4a65c_add_9ea2d_1 : decode cJx4a65c_add_9ea2d 1 = .ok (.dup, 1) := by decide +kernel
theorem dJx4a65c_add_9ea2d_2 : decode cJx4a65c_add_9ea2d 2 = .ok (.getfield 63, 3) := by decide +kernel
theorem dJx4a65c_add_9ea2d_5 : decode cJx4a65c_add_9ea2d 5 = .ok (.iconst 1, 1) := by decide +kernel
theorem dJx4a65c_add_9ea2d_6 : decode cJx4a65c_add_9ea2d 6 = .ok (.iadd, 1) := by decide +kernel
theorem dJx4a65c_add_9ea2d_7 : decode cJx4a65c_add_9ea2d 7 = .ok (.putfield 63, 3) := by decide +kernel
theorem dJx4a65c_add_9ea2d_10 : decode cJx4a65c_add_9ea2d 10 = .ok (.aload_n 0, 1) := by decide +kernel
theorem dJx4a65c_add_9ea2d_11 : decode cJx4a65c_add_9ea2d 11 = .ok (.aload_n 1, 1) := by decide +kernel
theorem dJx4a65c_add_9ea2d_12 : decode cJx4a65c_add_9ea2d 12 = .ok (.aload_n 0, 1) := by decide +kernel
theorem dJx4a65c_add_9ea2d_13 : decode cJx4a65c_add_9ea2d 13 = .ok (.getfield 9, 3) := by decide +kernel
theorem dJx4a65c_add_9ea2d_16 : decode cJx4a65c_add_9ea2d 16 = .ok (.aload_n 0, 1) := by decide +kernel
theorem dJx4a65c_add_9ea2d_17 : decode cJx4a65c_add_9ea2d 17 = .ok (.getfield 48, 3) := by decide +kernel
theorem dJx4a65c_add_9ea2d_20 : decode cJx4a65c_add_9ea2d 20 = .ok (.invokevirtual 131, 3) := by decide +kernel
theorem dJx4a65c_add_9ea2d_23 : decode cJx4a65c_add_9ea2d 23 = .ok (.iconst 1, 1) := by decide +kernel
theorem dJx4a65c_add_9ea2d_24 : decode cJx4a65c_add_9ea2d 24 = .ok (.ireturn, 1) := by decide +kernel
theorem dJx4a65c_remove_915e3_0 : decode cJx4a65c_remove_915e3 0 = .ok (.iload_n 1, 1) := by decide +kernel
theorem dJx4a65c_remove_915e3_1 : decode cJx4a65c_remove_915e3 1 = .ok (.aload_n 0, 1) := by decide +kernel
theorem dJx4a65c_remove_915e3_2 : decode cJx4a65c_remove_915e3 2 = .ok (.getfield 48, 3) := by decide +kernel
theorem dJx4a65c_remove_915e3_5 : decode cJx4a65c_remove_915e3 5 = .ok (.invokestatic 118, 3) := by decide +kernel
theorem dJx4a65c_remove_915e3_8 : decode cJx4a65c_remove_915e3 8 = .ok (.pop, 1) := by decide +kernel
theorem dJx4a65c_remove_915e3_9 : decode cJx4a65c_remove_915e3 9 = .ok (.aload_n 0, 1) := by decide +kernel
theorem dJx4a65c_remove_915e3_10 : decode cJx4a65c_remove_915e3 10 = .ok (.getfield 9, 3) := by decide +kernel
theorem dJx4a65c_remove_915e3_13 : decode cJx4a65c_remove_915e3 13 = .ok (.astore_n 2, 1) := by decide +kernel
theorem dJx4a65c_remove_915e3_14 : decode cJx4a65c_remove_915e3 14 = .ok (.aload_n 2, 1) := by decide +kernel
theorem dJx4a65c_remove_915e3_15 : decode cJx4a65c_remove_915e3 15 = .ok (.iload_n 1, 1) := by decide +kernel
theorem dJx4a65c_remove_915e3_16 : decode cJx4a65c_remove_915e3 16 = .ok (.aaload, 1) := by decide +kernel
theorem dJx4a65c_remove_915e3_17 : decode cJx4a65c_remove_915e3 17 = .ok (.astore_n 3, 1) := by decide +kernel
theorem dJx4a65c_remove_915e3_18 : decode cJx4a65c_remove_915e3 18 = .ok (.aload_n 0, 1) := by decide +kernel
theorem dJx4a65c_remove_915e3_19 : decode cJx4a65c_remove_915e3 19 = .ok (.aload_n 2, 1) := by decide +kernel
theorem dJx4a65c_remove_915e3_20 : decode cJx4a65c_remove_915e3 20 = .ok (.iload_n 1, 1) := by decide +kernel
theorem dJx4a65c_remove_915e3_21 : decode cJx4a65c_remove_915e3 21 = .ok (.invokevirtual 144, 3) := by decide +kernel
theorem dJx4a65c_remove_915e3_24 : decode cJx4a65c_remove_915e3 24 = .ok (.aload_n 3, 1) := by decide +kernel
theorem dJx4a65c_remove_915e3_25 : decode cJx4a65c_remove_915e3 25 = .ok (.areturn, 1) := by decide +kernel
theorem dJx4a65c_fastRemove_b59b0_0 : decode cJx4a65c_fastRemove_b59b0 0 = .ok (.aload_n 0, 1) := by decide +kernel
theorem dJx4a65c_fastRemove_b59b0_1 : decode cJx4a65c_fastRemove_b59b0 1 = .ok (.dup, 1) := by decide +kernel

theorem dL_sets_57 : decode cL_sets 57 = .ok (.ireturn, 1) := by decide +kernel
theorem dL_loads_0 : decode cL_loads 0 = .ok (.aload_n 1, 1) := by decide +kernel
theorem dL_loads_1 : decode cL_loads 1 = .ok (.bipush 50, 2) := by decide +kernel
theorem dL_loads_3 : decode cL_loads 3 = .ok (.iaload, 1) := by decide +kernel
theorem dL_loads_4 : decode cL_loads 4 = .ok (.ifCond .eq 21, 3) := by decide +kernel
theorem dL_loads_7 : decode cL_loads 7 = .ok (.aload_n 0, 1) := by decide +kernel
theorem dL_loads_8 : decode cL_loads 8 = .ok (.iload_n 2, 1) := by decide +kernel
theorem dL_loads_9 : decode cL_loads 9 = .ok (.iload_n 3, 1) := by decide +kernel
theorem dL_loads_10 : decode cL_loads 10 = .ok (.invokevirtual 39, 3) := by decide +kernel
theorem dL_loads_13 : decode cL_loads 13 = .ok (.sipush (-1003), 3) := by decide +kernel
theorem dL_loads_16 : decode cL_loads 16 = .ok (.if_icmp .ne 7, 3) := by decide +kernel
theorem dL_loads_19 : decode cL_loads 19 = .ok (.iconst 1, 1) := by decide +kernel
theorem dL_loads_20 : decode cL_loads 20 = .ok (.goto 4, 3) := by decide +kernel
theorem dL_loads_23 : decode cL_loads 23 = .ok (.iconst 0, 1) := by decide +kernel
theorem dL_loads_24 : decode cL_loads 24 = .ok (.ireturn, 1) := by decide +kernel
theorem dL_loads_25 : decode cL_loads 25 = .ok (.aload_n 1, 1) := by decide +kernel
theorem dL_loads_26 : decode cL_loads 26 = .ok (.bipush 8, 2) := by decide +kernel
theorem dL_loads_28 : decode cL_loads 28 = .ok (.iload_n 2, 1) := by decide +kernel
theorem dL_loads_29 : decode cL_loads 29 = .ok (.imul, 1) := by decide +kernel
theorem dL_loads_30 : decode cL_loads 30 = .ok (.iaload, 1) := by decide +kernel
theorem dL_loads_31 : decode cL_loads 31 = .ok (.iload_n 3, 1) := by decide +kernel
theorem dL_loads_32 : decode cL_loads 32 = .ok (.iadd, 1) := by decide +kernel
theorem dL_loads_33 : decode cL_loads 33 = .ok (.sipush 200, 3) := by decide +kernel
theorem dL_loads_36 : decode cL_loads 36 = .ok (.if_icmp .le 21, 3) := by decide +kernel
theorem dL_loads_39 : decode cL_loads 39 = .ok (.aload_n 0, 1) := by decide +kernel
theorem dL_loads_40 : decode cL_loads 40 = .ok (.iload_n 2, 1) := by decide +kernel
theorem dL_loads_41 : decode cL_loads 41 = .ok (.iload_n 3, 1) := by decide +kernel
theorem dL_loads_42 : decode cL_loads 42 = .ok (.invokevirtual 39, 3) := by decide +kernel
theorem dL_loads_45 : decode cL_loads 45 = .ok (.sipush (-1004), 3) := by decide +kernel
theorem dL_loads_48 : decode cL_loads 48 = .ok (.if_icmp .ne 7, 3) := by decide +kernel
theorem dL_loads_51 : decode cL_loads 51 = .ok (.iconst 1, 1) := by decide +kernel
theorem dL_loads_52 : decode cL_loads 52 = .ok (.goto 4, 3) := by decide +kernel
theorem dL_loads_55 : decode cL_loads 55 = .ok (.iconst 0, 1) := by decide +kernel
theorem dL_loads_56 : decode cL_loads 56 = .ok (.ireturn, 1) := by decide +kernel
theorem dL_loads_57 : decode cL_loads 57 = .ok (.aload_n 1, 1) := by decide +kernel
theorem dL_loads_58 : decode cL_loads 58 = .ok (.bipush 54, 2) := by decide +kernel
theorem dL_loads_60 : decode cL_loads 60 = .ok (.iaload, 1) := by decide +kernel
theorem dL_loads_61 : decode cL_loads 61 = .ok (.iload_n 3, 1) := by decide +kernel
theorem dL_loads_62 : decode cL_loads 62 = .ok (.iadd, 1) := by decide +kernel
theorem dL_loads_63 : decode cL_loads 63 = .ok (.sipush 1000, 3) := by decide +kernel
theorem dL_loads_66 : decode cL_loads 66 = .ok (.if_icmp .le 5, 3) := by decide +kernel
theorem dL_loads_69 : decode cL_loads 69 = .ok (.iconst 1, 1) := by decide +kernel
theorem dL_loads_70 : decode cL_loads 70 = .ok (.ireturn, 1) := by decide +kernel
theorem dL_loads_71 : decode cL_loads 71 = .ok (.aload_n 1, 1) := by decide +kernel
theorem dL_loads_72 : decode cL_loads 72 = .ok (.bipush 8, 2) := by decide +kernel
theorem dL_loads_74 : decode cL_loads 74 = .ok (.iload_n 2, 1) := by decide +kernel
theorem dL_loads_75 : decode cL_loads 75 = .ok (.imul, 1) := by decide +kernel
theorem dL_loads_76 : decode cL_loads 76 = .ok (.dup2, 1) := by decide +kernel
theorem dL_loads_77 : decode cL_loads 77 = .ok (.iaload, 1) := by decide +kernel
theorem dL_loads_78 : decode cL_loads 78 = .ok (.iload_n 3, 1) := by decide +kernel
theorem dL_loads_79 : decode cL_loads 79 = .ok (.iadd, 1) := by decide +kernel
theorem dL_loads_80 : decode cL_loads 80 = .ok (.iastore, 1) := by decide +kernel
theorem dL_loads_81 : decode cL_loads 81 = .ok (.aload_n 1, 1) := by decide +kernel
theorem dL_loads_82 : decode cL_loads 82 = .ok (.bipush 54, 2) := by decide +kernel
theorem dL_loads_84 : decode cL_loads 84 = .ok (.dup2, 1) := by decide +kernel
theorem dL_loads_85 : decode cL_loads 85 = .ok (.iaload, 1) := by decide +kernel
theorem dL_loads_86 : decode cL_loads 86 = .ok (.iload_n 3, 1) := by decide +kernel
theorem dL_loads_87 : decode cL_loads 87 = .ok (.iadd, 1) := by decide +kernel
theorem dL_loads_88 : decode cL_loads 88 = .ok (.iastore, 1) := by decide +kernel
theorem dL_loads_89 : decode cL_loads 89 = .ok (.aload_n 0, 1) := by decide +kernel
theorem dL_loads_90 : decode cL_loads 90 = .ok (.iload_n 2, 1) := by decide +kernel
theorem dL_loads_91 : decode cL_loads 91 = .ok (.iload_n 3, 1) := by decide +kernel
theorem dL_loads_92 : decode cL_loads 92 = .ok (.invokevirtual 39, 3) := by decide +kernel
theorem dL_loads_95 : decode cL_loads 95 = .ok (.aload_n 1, 1) := by decide +kernel
theorem dL_loads_96 : decode cL_loads 96 = .ok (.bipush 8, 2) := by decide +kernel
theorem dL_loads_98 : decode cL_loads 98 = .ok (.iload_n 2, 1) := by decide +kernel
theorem dL_loads_99 : decode cL_loads 99 = .ok (.imul, 1) := by decide +kernel
theorem dL_loads_100 : decode cL_loads 100 = .ok (.iaload, 1) := by decide +kernel
theorem dL_loads_101 : decode cL_loads 101 = .ok (.if_icmp .ne 7, 3) := by decide +kernel
theorem dL_loads_104 : decode cL_loads 104 = .ok (.iconst 1, 1) := by decide +kernel
theorem dL_loads_105 : decode cL_loads 105 = .ok (.goto 4, 3) := by decide +kernel
theorem dL_loads_108 : decode cL_loads 108 = .ok (.iconst 0, 1) := by decide +kernel
theorem dL_loads_109 : decode cL_loads 109 = .ok (.ireturn, 1) := by decide +kernel
theorem dL_doors_0 : decode cL_doors 0 = .ok (.aload_n 1, 1) := by decide +kernel
theorem dL_doors_1 : decode cL_doors 1 = .ok (.bipush 8, 2) := by decide +kernel
theorem dL_doors_3 : decode cL_doors 3 = .ok (.iload_n 2, 1) := by decide +kernel
theorem dL_doors_4 : decode cL_doors 4 = .ok (.imul, 1) := by decide +kernel
theorem dL_doors_5 : decode cL_doors 5 = .ok (.iconst 2, 1) := by decide +kernel
theorem dL_doors_6 : decode cL_doors 6 = .ok (.iadd, 1) := by decide +kernel
theorem dL_doors_7 : decode cL_doors 7 = .ok (.iload_n 3, 1) := by decide +kernel
theorem dL_doors_8 : decode cL_doors 8 = .ok (.iadd, 1) := by decide +kernel
theorem dL_doors_9 : decode cL_doors 9 = .ok (.iaload, 1) := by decide +kernel
theorem dL_doors_10 : decode cL_doors 10 = .ok (.istore 5, 2) := by decide +kernel
theorem dL_doors_12 : decode cL_doors 12 = .ok (.aload_n 1, 1) := by decide +kernel
theorem dL_doors_13 : decode cL_doors 13 = .ok (.iload_n 2, 1) := by decide +kernel
theorem dL_doors_14 : decode cL_doors 14 = .ok (.iload_n 3, 1) := by decide +kernel
theorem dL_doors_15 : decode cL_doors 15 = .ok (.iload 4, 2) := by decide +kernel
theorem dL_doors_17 : decode cL_doors 17 = .ok (.invokestatic 15, 3) := by decide +kernel
theorem dL_doors_20 : decode cL_doors 20 = .ok (.aload_n 0, 1) := by decide +kernel
theorem dL_doors_21 : decode cL_doors 21 = .ok (.iload_n 2, 1) := by decide +kernel
theorem dL_doors_22 : decode cL_doors 22 = .ok (.iload_n 3, 1) := by decide +kernel
theorem dL_doors_23 : decode cL_doors 23 = .ok (.iload 4, 2) := by decide +kernel
theorem dL_doors_25 : decode cL_doors 25 = .ok (.invokevirtual 42, 3) := by decide +kernel
theorem dL_doors_28 : decode cL_doors 28 = .ok (.iload 5, 2) := by decide +kernel
theorem dL_doors_30 : decode cL_doors 30 = .ok (.if_icmp .ne 20, 3) := by decide +kernel
theorem dL_doors_33 : decode cL_doors 33 = .ok (.aload_n 0, 1) := by decide +kernel
theorem dL_doors_34 : decode cL_doors 34 = .ok (.iload_n 2, 1) := by decide +kernel
theorem dL_doors_35 : decode cL_doors 35 = .ok (.iconst 3, 1) := by decide +kernel
theorem dL_doors_36 : decode cL_doors 36 = .ok (.iconst 0, 1) := by decide +kernel
theorem dL_doors_37 : decode cL_doors 37 = .ok (.invokevirtual 42, 3) := by decide +kernel
theorem dL_doors_40 : decode cL_doors 40 = .ok (.sipush (-1002), 3) := by decide +kernel
theorem dL_doors_43 : decode cL_doors 43 = .ok (.if_icmp .ne 7, 3) := by decide +kernel
theorem dL_doors_46 : decode cL_doors 46 = .ok (.iconst 1, 1) := by decide +kernel
theorem dL_doors_47 : decode cL_doors 47 = .ok (.goto 4, 3) := by decide +kernel
theorem dL_doors_50 : decode cL_doors 50 = .ok (.iconst 0, 1) := by decide +kernel
theorem dL_doors_51 : decode cL_doors 51 = .ok (.ireturn, 1) := by decide +kernel
theorem dL_wishes_0 : decode cL_wishes 0 = .ok (.aload_n 1, 1) := by decide +kernel
theorem dL_wishes_1 : decode cL_wishes 1 = .ok (.bipush 51, 2) := by decide +kernel
theorem dL_wishes_3 : decode cL_wishes 3 = .ok (.iaload, 1) := by decide +kernel
theorem dL_wishes_4 : decode cL_wishes 4 = .ok (.istore_n 3, 1) := by decide +kernel
theorem dL_wishes_5 : decode cL_wishes 5 = .ok (.aload_n 1, 1) := by decide +kernel
theorem dL_wishes_6 : decode cL_wishes 6 = .ok (.bipush 51, 2) := by decide +kernel
theorem dL_wishes_8 : decode cL_wishes 8 = .ok (.iload_n 2, 1) := by decide +kernel
theorem dL_wishes_9 : decode cL_wishes 9 = .ok (.iastore, 1) := by decide +kernel
theorem dL_wishes_10 : decode cL_wishes 10 = .ok (.aload_n 0, 1) := by decide +kernel
theorem dL_wishes_11 : decode cL_wishes 11 = .ok (.iload_n 2, 1) := by decide +kernel
theorem dL_wishes_12 : decode cL_wishes 12 = .ok (.invokevirtual 46, 3) := by decide +kernel
theorem dL_wishes_15 : decode cL_wishes 15 = .ok (.iload_n 3, 1) := by decide +kernel
theorem dL_wishes_16 : decode cL_wishes 16 = .ok (.if_icmp .ne 18, 3) := by decide +kernel
theorem dL_wishes_19 : decode cL_wishes 19 = .ok (.aload_n 0, 1) := by decide +kernel
theorem dL_wishes_20 : decode cL_wishes 20 = .ok (.iconst 4, 1) := by decide +kernel
theorem dL_wishes_21 : decode cL_wishes 21 = .ok (.invokevirtual 46, 3) := by decide +kernel
theorem dL_wishes_24 : decode cL_wishes 24 = .ok (.sipush (-1002), 3) := by decide +kernel
theorem dL_wishes_27 : decode cL_wishes 27 = .ok (.if_icmp .ne 7, 3) := by decide +kernel
theorem dL_wishes_30 : decode cL_wishes 30 = .ok (.iconst 1, 1) := by decide +kernel
theorem dL_wishes_31 : decode cL_wishes 31 = .ok (.goto 4, 3) := by decide +kernel
theorem dL_wishes_34 : decode cL_wishes 34 = .ok (.iconst 0, 1) := by decide +kernel
theorem dL_wishes_35 : decode cL_wishes 35 = .ok (.ireturn, 1) := by decide +kernel
theorem dL_passes_0 : decode cL_passes 0 = .ok (.iconst 0, 1) := by decide +kernel
theorem dL_passes_1 : decode cL_passes 1 = .ok (.istore 5, 2) := by decide +kernel
theorem dL_passes_3 : decode cL_passes 3 = .ok (.iload 5, 2) := by decide +kernel
theorem dL_passes_5 : decode cL_passes 5 = .ok (.iload 4, 2) := by decide +kernel
theorem dL_passes_7 : decode cL_passes 7 = .ok (.if_icmp .ge 15, 3) := by decide +kernel
theorem dL_passes_10 : decode cL_passes 10 = .ok (.aload_n 1, 1) := by decide +kernel
theorem dL_passes_11 : decode cL_passes 11 = .ok (.aload_n 2, 1) := by decide +kernel
theorem dL_passes_12 : decode cL_passes 12 = .ok (.aload_n 3, 1) := by decide +kernel
theorem dL_passes_13 : decode cL_passes 13 = .ok (.invokestatic 50, 3) := by decide +kernel
theorem dL_passes_16 : decode cL_passes 16 = .ok (.iinc 5 1, 3) := by decide +kernel
theorem dL_passes_19 : decode cL_passes 19 = .ok (.goto (-16), 3) := by decide +kernel
theorem dL_passes_22 : decode cL_passes 22 = .ok (.aload_n 0, 1) := by decide +kernel
theorem dL_passes_23 : decode cL_passes 23 = .ok (.iload 4, 2) := by decide +kernel
theorem dL_passes_25 : decode cL_passes 25 = .ok (.invokevirtual 54, 3) := by decide +kernel
theorem dL_passes_28 : decode cL_passes 28 = .ok (.aload_n 2, 1) := by decide +kernel
theorem dL_passes_29 : decode cL_passes 29 = .ok (.bipush 49, 2) := by decide +kernel
theorem dL_passes_31 : decode cL_passes 31 = .ok (.iaload, 1) := by decide +kernel
theorem dL_passes_32 : decode cL_passes 32 = .ok (.if_icmp .ne 20, 3) := by decide +kernel
theorem dL_passes_35 : decode cL_passes 35 = .ok (.aload_n 0, 1) := by decide +kernel
theorem dL_passes_36 : decode cL_passes 36 = .ok (.sipush 201, 3) := by decide +kernel
theorem dL_passes_39 : decode cL_passes 39 = .ok (.invokevirtual 54, 3) := by decide +kernel
theorem dL_passes_42 : decode cL_passes 42 = .ok (.sipush (-1002), 3) := by decide +kernel
theorem dL_passes_45 : decode cL_passes 45 = .ok (.if_icmp .ne 7, 3) := by decide +kernel
theorem dL_passes_48 : decode cL_passes 48 = .ok (.iconst 1, 1) := by decide +kernel
theorem dL_passes_49 : decode cL_passes 49 = .ok (.goto 4, 3) := by decide +kernel
theorem dL_passes_52 : decode cL_passes 52 = .ok (.iconst 0, 1) := by decide +kernel
theorem dL_passes_53 : decode cL_passes 53 = .ok (.ireturn, 1) := by decide +kernel
theorem dL_isTold_0 : decode cL_isTold 0 = .ok (.iconst 0, 1) := by decide +kernel
theorem dL_isTold_1 : decode cL_isTold 1 = .ok (.istore 4, 2) := by decide +kernel
theorem dL_isTold_3 : decode cL_isTold 3 = .ok (.iload 4, 2) := by decide +kernel
theorem dL_isTold_5 : decode cL_isTold 5 = .ok (.aload_n 2, 1) := by decide +kernel
theorem dL_isTold_6 : decode cL_isTold 6 = .ok (.bipush 48, 2) := by decide +kernel
theorem dL_isTold_8 : decode cL_isTold 8 = .ok (.iaload, 1) := by decide +kernel
theorem dL_isTold_9 : decode cL_isTold 9 = .ok (.if_icmp .ge 206, 3) := by decide +kernel
theorem dL_isTold_12 : decode cL_isTold 12 = .ok (.iconst 0, 1) := by decide +kernel
theorem dL_isTold_13 : decode cL_isTold 13 = .ok (.istore 5, 2) := by decide +kernel
theorem dL_isTold_15 : decode cL_isTold 15 = .ok (.iconst 0, 1) := by decide +kernel
theorem dL_isTold_16 : decode cL_isTold 16 = .ok (.istore 6, 2) := by decide +kernel
theorem dL_isTold_18 : decode cL_isTold 18 = .ok (.iconst 0, 1) := by decide +kernel
theorem dL_isTold_19 : decode cL_isTold 19 = .ok (.istore 7, 2) := by decide +kernel
theorem dL_isTold_21 : decode cL_isTold 21 = .ok (.iload 7, 2) := by decide +kernel
theorem dL_isTold_23 : decode cL_isTold 23 = .ok (.iconst 3, 1) := by decide +kernel
theorem dL_isTold_24 : decode cL_isTold 24 = .ok (.if_icmp .ge 104, 3) := by decide +kernel
theorem dL_isTold_27 : decode cL_isTold 27 = .ok (.aload_n 0, 1) := by decide +kernel
theorem dL_isTold_28 : decode cL_isTold 28 = .ok (.iload 4, 2) := by decide +kernel
theorem dL_isTold_30 : decode cL_isTold 30 = .ok (.iload 7, 2) := by decide +kernel
theorem dL_isTold_32 : decode cL_isTold 32 = .ok (.iconst 0, 1) := by decide +kernel
theorem dL_isTold_33 : decode cL_isTold 33 = .ok (.invokevirtual 57, 3) := by decide +kernel
theorem dL_isTold_36 : decode cL_isTold 36 = .ok (.aload_n 2, 1) := by decide +kernel
theorem dL_isTold_37 : decode cL_isTold 37 = .ok (.bipush 8, 2) := by decide +kernel
theorem dL_isTold_39 : decode cL_isTold 39 = .ok (.iload 4, 2) := by decide +kernel
theorem dL_isTold_41 : decode cL_isTold 41 = .ok (.imul, 1) := by decide +kernel
theorem dL_isTold_42 : decode cL_isTold 42 = .ok (.iconst 2, 1) := by decide +kernel
theorem dL_isTold_43 : decode cL_isTold 43 = .ok (.iadd, 1) := by decide +kernel
theorem dL_isTold_44 : decode cL_isTold 44 = .ok (.iload 7, 2) := by decide +kernel
theorem dL_isTold_46 : decode cL_isTold 46 = .ok (.iadd, 1) := by decide +kernel
theorem dL_isTold_47 : decode cL_isTold 47 = .ok (.iaload, 1) := by decide +kernel
theorem dL_isTold_48 : decode cL_isTold 48 = .ok (.if_icmp .ne 27, 3) := by decide +kernel
theorem dL_isTold_51 : decode cL_isTold 51 = .ok (.aload_n 0, 1) := by decide +kernel
theorem dL_isTold_52 : decode cL_isTold 52 = .ok (.iload 4, 2) := by decide +kernel
theorem dL_isTold_54 : decode cL_isTold 54 = .ok (.iload 7, 2) := by decide +kernel
theorem dL_isTold_56 : decode cL_isTold 56 = .ok (.iconst 1, 1) := by decide +kernel
theorem dL_isTold_57 : decode cL_isTold 57 = .ok (.invokevirtual 57, 3) := by decide +kernel
theorem dL_isTold_60 : decode cL_isTold 60 = .ok (.aload_n 2, 1) := by decide +kernel
theorem dL_isTold_61 : decode cL_isTold 61 = .ok (.bipush 8, 2) := by decide +kernel
theorem dL_isTold_63 : decode cL_isTold 63 = .ok (.iload 4, 2) := by decide +kernel
theorem dL_isTold_65 : decode cL_isTold 65 = .ok (.imul, 1) := by decide +kernel
theorem dL_isTold_66 : decode cL_isTold 66 = .ok (.iconst 5, 1) := by decide +kernel
theorem dL_isTold_67 : decode cL_isTold 67 = .ok (.iadd, 1) := by decide +kernel
theorem dL_isTold_68 : decode cL_isTold 68 = .ok (.iload 7, 2) := by decide +kernel
theorem dL_isTold_70 : decode cL_isTold 70 = .ok (.iadd, 1) := by decide +kernel
theorem dL_isTold_71 : decode cL_isTold 71 = .ok (.iaload, 1) := by decide +kernel
theorem dL_isTold_72 : decode cL_isTold 72 = .ok (.if_icmp .eq 5, 3) := by decide +kernel
theorem dL_isTold_75 : decode cL_isTold 75 = .ok (.iconst 0, 1) := by decide +kernel
theorem dL_isTold_76 : decode cL_isTold 76 = .ok (.ireturn, 1) := by decide +kernel
theorem dL_isTold_77 : decode cL_isTold 77 = .ok (.iload 6, 2) := by decide +kernel
theorem dL_isTold_79 : decode cL_isTold 79 = .ok (.aload_n 2, 1) := by decide +kernel
theorem dL_isTold_80 : decode cL_isTold 80 = .ok (.bipush 8, 2) := by decide +kernel
theorem dL_isTold_82 : decode cL_isTold 82 = .ok (.iload 4, 2) := by decide +kernel
theorem dL_isTold_84 : decode cL_isTold 84 = .ok (.imul, 1) := by decide +kernel
theorem dL_isTold_85 : decode cL_isTold 85 = .ok (.iconst 2, 1) := by decide +kernel
theorem dL_isTold_86 : decode cL_isTold 86 = .ok (.iadd, 1) := by decide +kernel
theorem dL_isTold_87 : decode cL_isTold 87 = .ok (.iload 7, 2) := by decide +kernel
theorem dL_isTold_89 : decode cL_isTold 89 = .ok (.iadd, 1) := by decide +kernel
theorem dL_isTold_90 : decode cL_isTold 90 = .ok (.iaload, 1) := by decide +kernel
theorem dL_isTold_91 : decode cL_isTold 91 = .ok (.iadd, 1) := by decide +kernel
theorem dL_isTold_92 : decode cL_isTold 92 = .ok (.istore 6, 2) := by decide +kernel
theorem dL_isTold_94 : decode cL_isTold 94 = .ok (.iload 5, 2) := by decide +kernel
theorem dL_isTold_96 : decode cL_isTold 96 = .ok (.aload_n 2, 1) := by decide +kernel
theorem dL_isTold_97 : decode cL_isTold 97 = .ok (.bipush 8, 2) := by decide +kernel
theorem dL_isTold_99 : decode cL_isTold 99 = .ok (.iload 4, 2) := by decide +kernel
theorem dL_isTold_101 : decode cL_isTold 101 = .ok (.imul, 1) := by decide +kernel
theorem dL_isTold_102 : decode cL_isTold 102 = .ok (.iconst 5, 1) := by decide +kernel
theorem dL_isTold_103 : decode cL_isTold 103 = .ok (.iadd, 1) := by decide +kernel
theorem dL_isTold_104 : decode cL_isTold 104 = .ok (.iload 7, 2) := by decide +kernel
theorem dL_isTold_106 : decode cL_isTold 106 = .ok (.iadd, 1) := by decide +kernel
theorem dL_isTold_107 : decode cL_isTold 107 = .ok (.iaload, 1) := by decide +kernel
theorem dL_isTold_108 : decode cL_isTold 108 = .ok (.sipush (-1001), 3) := by decide +kernel
theorem dL_isTold_111 : decode cL_isTold 111 = .ok (.if_icmp .ne 7, 3) := by decide +kernel
theorem dL_isTold_114 : decode cL_isTold 114 = .ok (.iconst 0, 1) := by decide +kernel
theorem dL_isTold_115 : decode cL_isTold 115 = .ok (.goto 4, 3) := by decide +kernel
theorem dL_isTold_118 : decode cL_isTold 118 = .ok (.iconst 1, 1) := by decide +kernel
theorem dL_isTold_119 : decode cL_isTold 119 = .ok (.iadd, 1) := by decide +kernel
theorem dL_isTold_120 : decode cL_isTold 120 = .ok (.istore 5, 2) := by decide +kernel
theorem dL_isTold_122 : decode cL_isTold 122 = .ok (.iinc 7 1, 3) := by decide +kernel
theorem dL_isTold_125 : decode cL_isTold 125 = .ok (.goto (-104), 3) := by decide +kernel
theorem dL_isTold_128 : decode cL_isTold 128 = .ok (.aload_n 0, 1) := by decide +kernel
theorem dL_isTold_129 : decode cL_isTold 129 = .ok (.iload 4, 2) := by decide +kernel
theorem dL_isTold_131 : decode cL_isTold 131 = .ok (.iconst 0, 1) := by decide +kernel
theorem dL_isTold_132 : decode cL_isTold 132 = .ok (.invokevirtual 60, 3) := by decide +kernel
theorem dL_isTold_135 : decode cL_isTold 135 = .ok (.aload_n 2, 1) := by decide +kernel
theorem dL_isTold_136 : decode cL_isTold 136 = .ok (.bipush 8, 2) := by decide +kernel
theorem dL_isTold_138 : decode cL_isTold 138 = .ok (.iload 4, 2) := by decide +kernel
theorem dL_isTold_140 : decode cL_isTold 140 = .ok (.imul, 1) := by decide +kernel
theorem dL_isTold_141 : decode cL_isTold 141 = .ok (.iaload, 1) := by decide +kernel
theorem dL_isTold_142 : decode cL_isTold 142 = .ok (.if_icmp .ne 65, 3) := by decide +kernel
theorem dL_isTold_145 : decode cL_isTold 145 = .ok (.aload_n 0, 1) := by decide +kernel
theorem dL_isTold_146 : decode cL_isTold 146 = .ok (.iload 4, 2) := by decide +kernel
theorem dL_isTold_148 : decode cL_isTold 148 = .ok (.iconst 1, 1) := by decide +kernel
theorem dL_isTold_149 : decode cL_isTold 149 = .ok (.invokevirtual 60, 3) := by decide +kernel
theorem dL_isTold_152 : decode cL_isTold 152 = .ok (.aload_n 2, 1) := by decide +kernel
theorem dL_isTold_153 : decode cL_isTold 153 = .ok (.bipush 49, 2) := by decide +kernel
theorem dL_isTold_155 : decode cL_isTold 155 = .ok (.iaload, 1) := by decide +kernel
theorem dL_isTold_156 : decode cL_isTold 156 = .ok (.iconst 4, 1) := by decide +kernel
theorem dL_isTold_157 : decode cL_isTold 157 = .ok (.iload 4, 2) := by decide +kernel
theorem dL_isTold_159 : decode cL_isTold 159 = .ok (.imul, 1) := by decide +kernel
theorem dL_isTold_160 : decode cL_isTold 160 = .ok (.isub, 1) := by decide +kernel
theorem dL_isTold_161 : decode cL_isTold 161 = .ok (.if_icmp .ne 46, 3) := by decide +kernel
theorem dL_isTold_164 : decode cL_isTold 164 = .ok (.aload_n 0, 1) := by decide +kernel
theorem dL_isTold_165 : decode cL_isTold 165 = .ok (.iload 4, 2) := by decide +kernel
theorem dL_isTold_167 : decode cL_isTold 167 = .ok (.iconst 2, 1) := by decide +kernel
theorem dL_isTold_168 : decode cL_isTold 168 = .ok (.invokevirtual 60, 3) := by decide +kernel
theorem dL_isTold_171 : decode cL_isTold 171 = .ok (.iload 6, 2) := by decide +kernel
theorem dL_isTold_173 : decode cL_isTold 173 = .ok (.if_icmp .ne 34, 3) := by decide +kernel
theorem dL_isTold_176 : decode cL_isTold 176 = .ok (.aload_n 0, 1) := by decide +kernel
theorem dL_isTold_177 : decode cL_isTold 177 = .ok (.iload 4, 2) := by decide +kernel
theorem dL_isTold_179 : decode cL_isTold 179 = .ok (.iconst 3, 1) := by decide +kernel
theorem dL_isTold_180 : decode cL_isTold 180 = .ok (.invokevirtual 60, 3) := by decide +kernel
theorem dL_isTold_183 : decode cL_isTold 183 = .ok (.iload 5, 2) := by decide +kernel
theorem dL_isTold_185 : decode cL_isTold 185 = .ok (.if_icmp .ne 22, 3) := by decide +kernel
theorem dL_isTold_188 : decode cL_isTold 188 = .ok (.aload_n 0, 1) := by decide +kernel
theorem dL_isTold_189 : decode cL_isTold 189 = .ok (.iload 4, 2) := by decide +kernel
theorem dL_isTold_191 : decode cL_isTold 191 = .ok (.iconst 4, 1) := by decide +kernel
theorem dL_isTold_192 : decode cL_isTold 192 = .ok (.invokevirtual 60, 3) := by decide +kernel
theorem dL_isTold_195 : decode cL_isTold 195 = .ok (.aload_n 2, 1) := by decide +kernel
theorem dL_isTold_196 : decode cL_isTold 196 = .ok (.bipush 8, 2) := by decide +kernel
theorem dL_isTold_198 : decode cL_isTold 198 = .ok (.iload 4, 2) := by decide +kernel
theorem dL_isTold_200 : decode cL_isTold 200 = .ok (.imul, 1) := by decide +kernel
theorem dL_isTold_201 : decode cL_isTold 201 = .ok (.iconst 1, 1) := by decide +kernel
theorem dL_isTold_202 : decode cL_isTold 202 = .ok (.iadd, 1) := by decide +kernel
theorem dL_isTold_203 : decode cL_isTold 203 = .ok (.iaload, 1) := by decide +kernel
theorem dL_isTold_204 : decode cL_isTold 204 = .ok (.if_icmp .eq 5, 3) := by decide +kernel
theorem dL_isTold_207 : decode cL_isTold 207 = .ok (.iconst 0, 1) := by decide +kernel
theorem dL_isTold_208 : decode cL_isTold 208 = .ok (.ireturn, 1) := by decide +kernel
theorem dL_isTold_209 : decode cL_isTold 209 = .ok (.iinc 4 1, 3) := by decide +kernel
theorem dL_isTold_212 : decode cL_isTold 212 = .ok (.goto (-209), 3) := by decide +kernel
theorem dL_isTold_215 : decode cL_isTold 215 = .ok (.iconst 0, 1) := by decide +kernel
theorem dL_isTold_216 : decode cL_isTold 216 = .ok (.istore 4, 2) := by decide +kernel
theorem dL_isTold_218 : decode cL_isTold 218 = .ok (.iload 4, 2) := by decide +kernel
theorem dL_isTold_220 : decode cL_isTold 220 = .ok (.bipush 40, 2) := by decide +kernel
theorem dL_isTold_222 : decode cL_isTold 222 = .ok (.if_icmp .ge 62, 3) := by decide +kernel
theorem dL_isTold_225 : decode cL_isTold 225 = .ok (.aload_n 0, 1) := by decide +kernel
theorem dL_isTold_226 : decode cL_isTold 226 = .ok (.iload 4, 2) := by decide +kernel
theorem dL_isTold_228 : decode cL_isTold 228 = .ok (.iconst 0, 1) := by decide +kernel
theorem dL_isTold_229 : decode cL_isTold 229 = .ok (.invokevirtual 63, 3) := by decide +kernel
theorem dL_isTold_232 : decode cL_isTold 232 = .ok (.aload_n 1, 1) := by decide +kernel
theorem dL_isTold_233 : decode cL_isTold 233 = .ok (.iload 4, 2) := by decide +kernel
theorem dL_isTold_235 : decode cL_isTold 235 = .ok (.iconst 0, 1) := by decide +kernel
theorem dL_isTold_236 : decode cL_isTold 236 = .ok (.invokestatic 29, 3) := by decide +kernel
theorem dL_isTold_239 : decode cL_isTold 239 = .ok (.if_icmp .ne 37, 3) := by decide +kernel
theorem dL_isTold_242 : decode cL_isTold 242 = .ok (.aload_n 0, 1) := by decide +kernel
theorem dL_isTold_243 : decode cL_isTold 243 = .ok (.iload 4, 2) := by decide +kernel
theorem dL_isTold_245 : decode cL_isTold 245 = .ok (.iconst 1, 1) := by decide +kernel
theorem dL_isTold_246 : decode cL_isTold 246 = .ok (.invokevirtual 63, 3) := by decide +kernel
theorem dL_isTold_249 : decode cL_isTold 249 = .ok (.aload_n 1, 1) := by decide +kernel
theorem dL_isTold_250 : decode cL_isTold 250 = .ok (.iload 4, 2) := by decide +kernel
theorem dL_isTold_252 : decode cL_isTold 252 = .ok (.iconst 1, 1) := by decide +kernel
theorem dL_isTold_253 : decode cL_isTold 253 = .ok (.invokestatic 29, 3) := by decide +kernel
theorem dL_isTold_256 : decode cL_isTold 256 = .ok (.if_icmp .ne 20, 3) := by decide +kernel
theorem dL_isTold_259 : decode cL_isTold 259 = .ok (.aload_n 0, 1) := by decide +kernel
theorem dL_isTold_260 : decode cL_isTold 260 = .ok (.iload 4, 2) := by decide +kernel
theorem dL_isTold_262 : decode cL_isTold 262 = .ok (.iconst 2, 1) := by decide +kernel
theorem dL_isTold_263 : decode cL_isTold 263 = .ok (.invokevirtual 63, 3) := by decide +kernel
theorem dL_isTold_266 : decode cL_isTold 266 = .ok (.aload_n 1, 1) := by decide +kernel
theorem dL_isTold_267 : decode cL_isTold 267 = .ok (.iload 4, 2) := by decide +kernel
theorem dL_isTold_269 : decode cL_isTold 269 = .ok (.iconst 2, 1) := by decide +kernel
theorem dL_isTold_270 : decode cL_isTold 270 = .ok (.invokestatic 29, 3) := by decide +kernel
theorem dL_isTold_273 : decode cL_isTold 273 = .ok (.if_icmp .eq 5, 3) := by decide +kernel
theorem dL_isTold_276 : decode cL_isTold 276 = .ok (.iconst 0, 1) := by decide +kernel
theorem dL_isTold_277 : decode cL_isTold 277 = .ok (.ireturn, 1) := by decide +kernel
theorem dL_isTold_278 : decode cL_isTold 278 = .ok (.iinc 4 1, 3) := by decide +kernel
theorem dL_isTold_281 : decode cL_isTold 281 = .ok (.goto (-63), 3) := by decide +kernel
theorem dL_isTold_284 : decode cL_isTold 284 = .ok (.iconst 0, 1) := by decide +kernel
theorem dL_isTold_285 : decode cL_isTold 285 = .ok (.istore 4, 2) := by decide +kernel
theorem dL_isTold_287 : decode cL_isTold 287 = .ok (.iload 4, 2) := by decide +kernel
theorem dL_isTold_289 : decode cL_isTold 289 = .ok (.iconst 5, 1) := by decide +kernel
theorem dL_isTold_290 : decode cL_isTold 290 = .ok (.if_icmp .ge 46, 3) := by decide +kernel
theorem dL_isTold_293 : decode cL_isTold 293 = .ok (.aload_n 0, 1) := by decide +kernel
theorem dL_isTold_294 : decode cL_isTold 294 = .ok (.bipush 14, 2) := by decide +kernel
theorem dL_isTold_296 : decode cL_isTold 296 = .ok (.iload 4, 2) := by decide +kernel
theorem dL_isTold_298 : decode cL_isTold 298 = .ok (.iadd, 1) := by decide +kernel
theorem dL_isTold_299 : decode cL_isTold 299 = .ok (.invokevirtual 65, 3) := by decide +kernel
theorem dL_isTold_302 : decode cL_isTold 302 = .ok (.aload_n 2, 1) := by decide +kernel
theorem dL_isTold_303 : decode cL_isTold 303 = .ok (.bipush 57, 2) := by decide +kernel
theorem dL_isTold_305 : decode cL_isTold 305 = .ok (.iload 4, 2) := by decide +kernel
theorem dL_isTold_307 : decode cL_isTold 307 = .ok (.iadd, 1) := by decide +kernel
theorem dL_isTold_308 : decode cL_isTold 308 = .ok (.iaload, 1) := by decide +kernel
theorem dL_isTold_309 : decode cL_isTold 309 = .ok (.if_icmp .ne 19, 3) := by decide +kernel
theorem dL_isTold_312 : decode cL_isTold 312 = .ok (.aload_n 0, 1) := by decide +kernel
theorem dL_isTold_313 : decode cL_isTold 313 = .ok (.iload 4, 2) := by decide +kernel
theorem dL_isTold_315 : decode cL_isTold 315 = .ok (.invokevirtual 65, 3) := by decide +kernel
theorem dL_isTold_318 : decode cL_isTold 318 = .ok (.aload_n 2, 1) := by decide +kernel
theorem dL_isTold_319 : decode cL_isTold 319 = .ok (.bipush 48, 2) := by decide +kernel
theorem dL_isTold_321 : decode cL_isTold 321 = .ok (.iload 4, 2) := by decide +kernel
theorem dL_isTold_323 : decode cL_isTold 323 = .ok (.iadd, 1) := by decide +kernel
theorem dL_isTold_324 : decode cL_isTold 324 = .ok (.iaload, 1) := by decide +kernel
theorem dL_isTold_325 : decode cL_isTold 325 = .ok (.if_icmp .eq 5, 3) := by decide +kernel
theorem dL_isTold_328 : decode cL_isTold 328 = .ok (.iconst 0, 1) := by decide +kernel
theorem dL_isTold_329 : decode cL_isTold 329 = .ok (.ireturn, 1) := by decide +kernel
theorem dL_isTold_330 : decode cL_isTold 330 = .ok (.iinc 4 1, 3) := by decide +kernel
theorem dL_isTold_333 : decode cL_isTold 333 = .ok (.goto (-46), 3) := by decide +kernel
theorem dL_isTold_336 : decode cL_isTold 336 = .ok (.aload_n 1, 1) := by decide +kernel
theorem dL_isTold_337 : decode cL_isTold 337 = .ok (.iconst 0, 1) := by decide +kernel
theorem dL_isTold_338 : decode cL_isTold 338 = .ok (.invokestatic 68, 3) := by decide +kernel
theorem dL_isTold_341 : decode cL_isTold 341 = .ok (.aload_n 1, 1) := by decide +kernel
theorem dL_isTold_342 : decode cL_isTold 342 = .ok (.iconst 1, 1) := by decide +kernel
theorem dL_isTold_343 : decode cL_isTold 343 = .ok (.invokestatic 68, 3) := by decide +kernel
theorem dL_isTold_346 : decode cL_isTold 346 = .ok (.iadd, 1) := by decide +kernel
theorem dL_isTold_347 : decode cL_isTold 347 = .ok (.aload_n 1, 1) := by decide +kernel
theorem dL_isTold_348 : decode cL_isTold 348 = .ok (.iconst 2, 1) := by decide +kernel
theorem dL_isTold_349 : decode cL_isTold 349 = .ok (.invokestatic 68, 3) := by decide +kernel
theorem dL_isTold_352 : decode cL_isTold 352 = .ok (.iadd, 1) := by decide +kernel
theorem dL_isTold_353 : decode cL_isTold 353 = .ok (.istore 4, 2) := by decide +kernel
theorem dL_isTold_355 : decode cL_isTold 355 = .ok (.aload_n 0, 1) := by decide +kernel
theorem dL_isTold_356 : decode cL_isTold 356 = .ok (.iconst 5, 1) := by decide +kernel
theorem dL_isTold_357 : decode cL_isTold 357 = .ok (.invokevirtual 65, 3) := by decide +kernel
theorem dL_isTold_360 : decode cL_isTold 360 = .ok (.aload_n 3, 1) := by decide +kernel
theorem dL_isTold_361 : decode cL_isTold 361 = .ok (.bipush 60, 2) := by decide +kernel
theorem dL_isTold_363 : decode cL_isTold 363 = .ok (.iaload, 1) := by decide +kernel
theorem dL_isTold_364 : decode cL_isTold 364 = .ok (.if_icmp .ne 111, 3) := by decide +kernel
theorem dL_isTold_367 : decode cL_isTold 367 = .ok (.aload_n 0, 1) := by decide +kernel
theorem dL_isTold_368 : decode cL_isTold 368 = .ok (.bipush 6, 2) := by decide +kernel
theorem dL_isTold_370 : decode cL_isTold 370 = .ok (.invokevirtual 65, 3) := by decide +kernel
theorem dL_isTold_373 : decode cL_isTold 373 = .ok (.aload_n 2, 1) := by decide +kernel
theorem dL_isTold_374 : decode cL_isTold 374 = .ok (.bipush 53, 2) := by decide +kernel
theorem dL_isTold_376 : decode cL_isTold 376 = .ok (.iaload, 1) := by decide +kernel
theorem dL_isTold_377 : decode cL_isTold 377 = .ok (.if_icmp .ne 98, 3) := by decide +kernel
theorem dL_isTold_380 : decode cL_isTold 380 = .ok (.aload_n 0, 1) := by decide +kernel
theorem dL_isTold_381 : decode cL_isTold 381 = .ok (.bipush 7, 2) := by decide +kernel
theorem dL_isTold_383 : decode cL_isTold 383 = .ok (.invokevirtual 65, 3) := by decide +kernel
theorem dL_isTold_386 : decode cL_isTold 386 = .ok (.aload_n 2, 1) := by decide +kernel
theorem dL_isTold_387 : decode cL_isTold 387 = .ok (.bipush 54, 2) := by decide +kernel
theorem dL_isTold_389 : decode cL_isTold 389 = .ok (.iaload, 1) := by decide +kernel
theorem dL_isTold_390 : decode cL_isTold 390 = .ok (.if_icmp .ne 85, 3) := by decide +kernel
theorem dL_isTold_393 : decode cL_isTold 393 = .ok (.aload_n 0, 1) := by decide +kernel
theorem dL_isTold_394 : decode cL_isTold 394 = .ok (.bipush 8, 2) := by decide +kernel
theorem dL_isTold_396 : decode cL_isTold 396 = .ok (.invokevirtual 65, 3) := by decide +kernel
theorem dL_isTold_399 : decode cL_isTold 399 = .ok (.aload_n 2, 1) := by decide +kernel
theorem dL_isTold_400 : decode cL_isTold 400 = .ok (.invokestatic 72, 3) := by decide +kernel
theorem dL_isTold_403 : decode cL_isTold 403 = .ok (.if_icmp .ne 72, 3) := by decide +kernel
theorem dL_isTold_406 : decode cL_isTold 406 = .ok (.aload_n 0, 1) := by decide +kernel
theorem dL_isTold_407 : decode cL_isTold 407 = .ok (.bipush 9, 2) := by decide +kernel
theorem dL_isTold_409 : decode cL_isTold 409 = .ok (.invokevirtual 65, 3) := by decide +kernel
theorem dL_isTold_412 : decode cL_isTold 412 = .ok (.iload 4, 2) := by decide +kernel
theorem dL_isTold_414 : decode cL_isTold 414 = .ok (.if_icmp .ne 61, 3) := by decide +kernel
theorem dL_isTold_417 : decode cL_isTold 417 = .ok (.aload_n 0, 1) := by decide +kernel
theorem dL_isTold_418 : decode cL_isTold 418 = .ok (.bipush 10, 2) := by decide +kernel
theorem dL_isTold_420 : decode cL_isTold 420 = .ok (.invokevirtual 65, 3) := by decide +kernel
theorem dL_isTold_423 : decode cL_isTold 423 = .ok (.aload_n 2, 1) := by decide +kernel
theorem dL_isTold_424 : decode cL_isTold 424 = .ok (.bipush 55, 2) := by decide +kernel
theorem dL_isTold_426 : decode cL_isTold 426 = .ok (.iaload, 1) := by decide +kernel
theorem dL_isTold_427 : decode cL_isTold 427 = .ok (.if_icmp .ne 48, 3) := by decide +kernel
theorem dL_isTold_430 : decode cL_isTold 430 = .ok (.aload_n 0, 1) := by decide +kernel
theorem dL_isTold_431 : decode cL_isTold 431 = .ok (.bipush 11, 2) := by decide +kernel
theorem dL_isTold_433 : decode cL_isTold 433 = .ok (.invokevirtual 65, 3) := by decide +kernel
theorem dL_isTold_436 : decode cL_isTold 436 = .ok (.aload_n 2, 1) := by decide +kernel
theorem dL_isTold_437 : decode cL_isTold 437 = .ok (.bipush 56, 2) := by decide +kernel
theorem dL_isTold_439 : decode cL_isTold 439 = .ok (.iaload, 1) := by decide +kernel
theorem dL_isTold_440 : decode cL_isTold 440 = .ok (.if_icmp .ne 35, 3) := by decide +kernel
theorem dL_isTold_443 : decode cL_isTold 443 = .ok (.aload_n 0, 1) := by decide +kernel
theorem dL_isTold_444 : decode cL_isTold 444 = .ok (.aload_n 2, 1) := by decide +kernel
theorem dL_isTold_445 : decode cL_isTold 445 = .ok (.bipush 48, 2) := by decide +kernel
theorem dL_isTold_447 : decode cL_isTold 447 = .ok (.iaload, 1) := by decide +kernel
theorem dL_isTold_448 : decode cL_isTold 448 = .ok (.iconst 0, 1) := by decide +kernel
theorem dL_isTold_449 : decode cL_isTold 449 = .ok (.invokevirtual 60, 3) := by decide +kernel
theorem dL_isTold_452 : decode cL_isTold 452 = .ok (.sipush (-1002), 3) := by decide +kernel
theorem dL_isTold_455 : decode cL_isTold 455 = .ok (.if_icmp .ne 20, 3) := by decide +kernel
theorem dL_isTold_458 : decode cL_isTold 458 = .ok (.aload_n 0, 1) := by decide +kernel
theorem dL_isTold_459 : decode cL_isTold 459 = .ok (.bipush 40, 2) := by decide +kernel
theorem dL_isTold_461 : decode cL_isTold 461 = .ok (.iconst 0, 1) := by decide +kernel
theorem dL_isTold_462 : decode cL_isTold 462 = .ok (.invokevirtual 63, 3) := by decide +kernel
theorem dL_isTold_465 : decode cL_isTold 465 = .ok (.sipush (-1002), 3) := by decide +kernel
theorem dL_isTold_468 : decode cL_isTold 468 = .ok (.if_icmp .ne 7, 3) := by decide +kernel
theorem dL_isTold_471 : decode cL_isTold 471 = .ok (.iconst 1, 1) := by decide +kernel
theorem dL_isTold_472 : decode cL_isTold 472 = .ok (.goto 4, 3) := by decide +kernel
theorem dL_isTold_475 : decode cL_isTold 475 = .ok (.iconst 0, 1) := by decide +kernel
theorem dL_isTold_476 : decode cL_isTold 476 = .ok (.ireturn, 1) := by decide +kernel
theorem dL_scrapes_0 : decode cL_scrapes 0 = .ok (.aload_n 1, 1) := by decide +kernel
theorem dL_scrapes_1 : decode cL_scrapes 1 = .ok (.iload_n 3, 1) := by decide +kernel
theorem dL_scrapes_2 : decode cL_scrapes 2 = .ok (.iload 4, 2) := by decide +kernel
theorem dL_scrapes_4 : decode cL_scrapes 4 = .ok (.invokestatic 29, 3) := by decide +kernel
theorem dL_scrapes_7 : decode cL_scrapes 7 = .ok (.iload 5, 2) := by decide +kernel
theorem dL_scrapes_9 : decode cL_scrapes 9 = .ok (.if_icmp .ge 13, 3) := by decide +kernel
theorem dL_scrapes_12 : decode cL_scrapes 12 = .ok (.aload_n 1, 1) := by decide +kernel
theorem dL_scrapes_13 : decode cL_scrapes 13 = .ok (.iload_n 3, 1) := by decide +kernel
theorem dL_scrapes_14 : decode cL_scrapes 14 = .ok (.iload 4, 2) := by decide +kernel
theorem dL_scrapes_16 : decode cL_scrapes 16 = .ok (.invokestatic 29, 3) := by decide +kernel
theorem dL_scrapes_19 : decode cL_scrapes 19 = .ok (.goto 5, 3) := by decide +kernel
theorem dL_scrapes_22 : decode cL_scrapes 22 = .ok (.iload 5, 2) := by decide +kernel
theorem dL_scrapes_24 : decode cL_scrapes 24 = .ok (.istore 6, 2) := by decide +kernel
theorem dL_scrapes_26 : decode cL_scrapes 26 = .ok (.aload_n 1, 1) := by decide +kernel
theorem dL_scrapes_27 : decode cL_scrapes 27 = .ok (.iload_n 3, 1) := by decide +kernel
theorem dL_scrapes_28 : decode cL_scrapes 28 = .ok (.iload 4, 2) := by decide +kernel
theorem dL_scrapes_30 : decode cL_scrapes 30 = .ok (.iload 6, 2) := by decide +kernel
theorem dL_scrapes_32 : decode cL_scrapes 32 = .ok (.ineg, 1) := by decide +kernel
theorem dL_scrapes_33 : decode cL_scrapes 33 = .ok (.invokestatic 26, 3) := by decide +kernel
theorem dL_scrapes_36 : decode cL_scrapes 36 = .ok (.aload_n 2, 1) := by decide +kernel
theorem dL_scrapes_37 : decode cL_scrapes 37 = .ok (.bipush 56, 2) := by decide +kernel
theorem dL_scrapes_39 : decode cL_scrapes 39 = .ok (.dup2, 1) := by decide +kernel
theorem dL_scrapes_40 : decode cL_scrapes 40 = .ok (.iaload, 1) := by decide +kernel
theorem dL_scrapes_41 : decode cL_scrapes 41 = .ok (.iload 6, 2) := by decide +kernel
theorem dL_scrapes_43 : decode cL_scrapes 43 = .ok (.iadd, 1) := by decide +kernel
theorem dL_scrapes_44 : decode cL_scrapes 44 = .ok (.iastore, 1) := by decide +kernel
theorem dL_scrapes_45 : decode cL_scrapes 45 = .ok (.aload_n 0, 1) := by decide +kernel
theorem dL_scrapes_46 : decode cL_scrapes 46 = .ok (.iload_n 3, 1) := by decide +kernel
theorem dL_scrapes_47 : decode cL_scrapes 47 = .ok (.iload 4, 2) := by decide +kernel
theorem dL_scrapes_49 : decode cL_scrapes 49 = .ok (.iload 5, 2) := by decide +kernel
theorem dL_scrapes_51 : decode cL_scrapes 51 = .ok (.invokevirtual 76, 3) := by decide +kernel
theorem dL_scrapes_54 : decode cL_scrapes 54 = .ok (.iload 6, 2) := by decide +kernel
theorem dL_scrapes_56 : decode cL_scrapes 56 = .ok (.if_icmp .ne 35, 3) := by decide +kernel
theorem dL_scrapes_59 : decode cL_scrapes 59 = .ok (.aload_n 0, 1) := by decide +kernel
theorem dL_scrapes_60 : decode cL_scrapes 60 = .ok (.bipush 40, 2) := by decide +kernel
theorem dL_scrapes_62 : decode cL_scrapes 62 = .ok (.iconst 0, 1) := by decide +kernel
theorem dL_scrapes_63 : decode cL_scrapes 63 = .ok (.iconst 1, 1) := by decide +kernel
theorem dL_scrapes_64 : decode cL_scrapes 64 = .ok (.invokevirtual 76, 3) := by decide +kernel
theorem dL_scrapes_67 : decode cL_scrapes 67 = .ok (.sipush (-1002), 3) := by decide +kernel
theorem dL_scrapes_70 : decode cL_scrapes 70 = .ok (.if_icmp .ne 21, 3) := by decide +kernel
theorem dL_scrapes_73 : decode cL_scrapes 73 = .ok (.aload_n 0, 1) := by decide +kernel
theorem dL_scrapes_74 : decode cL_scrapes 74 = .ok (.iconst 0, 1) := by decide +kernel
theorem dL_scrapes_75 : decode cL_scrapes 75 = .ok (.iconst 0, 1) := by decide +kernel
theorem dL_scrapes_76 : decode cL_scrapes 76 = .ok (.bipush 61, 2) := by decide +kernel
theorem dL_scrapes_78 : decode cL_scrapes 78 = .ok (.invokevirtual 76, 3) := by decide +kernel
theorem dL_scrapes_81 : decode cL_scrapes 81 = .ok (.sipush (-1002), 3) := by decide +kernel
theorem dL_scrapes_84 : decode cL_scrapes 84 = .ok (.if_icmp .ne 7, 3) := by decide +kernel
theorem dL_scrapes_87 : decode cL_scrapes 87 = .ok (.iconst 1, 1) := by decide +kernel
theorem dL_scrapes_88 : decode cL_scrapes 88 = .ok (.goto 4, 3) := by decide +kernel
theorem dL_scrapes_91 : decode cL_scrapes 91 = .ok (.iconst 0, 1) := by decide +kernel
theorem dL_scrapes_92 : decode cL_scrapes 92 = .ok (.ireturn, 1) := by decide +kernel
theorem dL_setsTrain_0 : decode cL_setsTrain 0 = .ok (.aload_n 1, 1) := by decide +kernel
theorem dL_setsTrain_1 : decode cL_setsTrain 1 = .ok (.invokestatic 72, 3) := by decide +kernel
theorem dL_setsTrain_4 : decode cL_setsTrain 4 = .ok (.istore_n 3, 1) := by decide +kernel
theorem dL_setsTrain_5 : decode cL_setsTrain 5 = .ok (.aload_n 1, 1) := by decide +kernel
theorem dL_setsTrain_6 : decode cL_setsTrain 6 = .ok (.bipush 56, 2) := by decide +kernel
theorem dL_setsTrain_8 : decode cL_setsTrain 8 = .ok (.dup2, 1) := by decide +kernel
theorem dL_setsTrain_9 : decode cL_setsTrain 9 = .ok (.iaload, 1) := by decide +kernel
theorem dL_setsTrain_10 : decode cL_setsTrain 10 = .ok (.iload_n 3, 1) := by decide +kernel
theorem dL_setsTrain_11 : decode cL_setsTrain 11 = .ok (.iadd, 1) := by decide +kernel
theorem dL_setsTrain_12 : decode cL_setsTrain 12 = .ok (.iastore, 1) := by decide +kernel
theorem dL_setsTrain_13 : decode cL_setsTrain 13 = .ok (.aload_n 1, 1) := by decide +kernel
theorem dL_setsTrain_14 : decode cL_setsTrain 14 = .ok (.iload_n 2, 1) := by decide +kernel
theorem dL_setsTrain_15 : decode cL_setsTrain 15 = .ok (.invokestatic 9, 3) := by decide +kernel
theorem dL_setsTrain_18 : decode cL_setsTrain 18 = .ok (.aload_n 0, 1) := by decide +kernel
theorem dL_setsTrain_19 : decode cL_setsTrain 19 = .ok (.iload_n 2, 1) := by decide +kernel
theorem dL_setsTrain_20 : decode cL_setsTrain 20 = .ok (.invokevirtual 79, 3) := by decide +kernel
theorem dL_setsTrain_23 : decode cL_setsTrain 23 = .ok (.iload_n 3, 1) := by decide +kernel
theorem dL_setsTrain_24 : decode cL_setsTrain 24 = .ok (.if_icmp .ne 19, 3) := by decide +kernel
theorem dL_setsTrain_27 : decode cL_setsTrain 27 = .ok (.aload_n 0, 1) := by decide +kernel
theorem dL_setsTrain_28 : decode cL_setsTrain 28 = .ok (.bipush 7, 2) := by decide +kernel
theorem dL_setsTrain_30 : decode cL_setsTrain 30 = .ok (.invokevirtual 79, 3) := by decide +kernel
theorem dL_setsTrain_33 : decode cL_setsTrain 33 = .ok (.sipush (-1002), 3) := by decide +kernel
theorem dL_setsTrain_36 : decode cL_setsTrain 36 = .ok (.if_icmp .ne 7, 3) := by decide +kernel
theorem dL_setsTrain_39 : decode cL_setsTrain 39 = .ok (.iconst 1, 1) := by decide +kernel
theorem dL_setsTrain_40 : decode cL_setsTrain 40 = .ok (.goto 4, 3) := by decide +kernel
theorem dL_setsTrain_43 : decode cL_setsTrain 43 = .ok (.iconst 0, 1) := by decide +kernel
theorem dL_setsTrain_44 : decode cL_setsTrain 44 = .ok (.ireturn, 1) := by decide +kernel
theorem dL_law_0 : decode cL_law 0 = .ok (.new 34, 3) := by decide +kernel
theorem dL_law_3 : decode cL_law 3 = .ok (.dup, 1) := by decide +kernel
theorem dL_law_4 : decode cL_law 4 = .ok (.invokespecial 82, 3) := by decide +kernel
theorem dL_law_7 : decode cL_law 7 = .ok (.astore_n 1, 1) := by decide +kernel
theorem dL_law_8 : decode cL_law 8 = .ok (.bipush 40, 2) := by decide +kernel
theorem dL_law_10 : decode cL_law 10 = .ok (.newarray .int, 2) := by decide +kernel
theorem dL_law_12 : decode cL_law 12 = .ok (.astore_n 2, 1) := by decide +kernel
theorem dL_law_13 : decode cL_law 13 = .ok (.bipush 64, 2) := by decide +kernel
theorem dL_law_15 : decode cL_law 15 = .ok (.newarray .int, 2) := by decide +kernel
theorem dL_law_17 : decode cL_law 17 = .ok (.astore_n 3, 1) := by decide +kernel
theorem dL_law_18 : decode cL_law 18 = .ok (.bipush 64, 2) := by decide +kernel
theorem dL_law_20 : decode cL_law 20 = .ok (.newarray .int, 2) := by decide +kernel
theorem dL_law_22 : decode cL_law 22 = .ok (.astore 4, 2) := by decide +kernel
theorem dL_law_24 : decode cL_law 24 = .ok (.aload_n 3, 1) := by decide +kernel
theorem dL_law_25 : decode cL_law 25 = .ok (.invokestatic 83, 3) := by decide +kernel
theorem dL_law_28 : decode cL_law 28 = .ok (.aload_n 1, 1) := by decide +kernel
theorem dL_law_29 : decode cL_law 29 = .ok (.iconst 3, 1) := by decide +kernel
theorem dL_law_30 : decode cL_law 30 = .ok (.iconst 1, 1) := by decide +kernel
theorem dL_law_31 : decode cL_law 31 = .ok (.invokevirtual 39, 3) := by decide +kernel
theorem dL_law_34 : decode cL_law 34 = .ok (.sipush (-1002), 3) := by decide +kernel
theorem dL_law_37 : decode cL_law 37 = .ok (.if_icmp .ne 98, 3) := by decide +kernel
theorem dL_law_40 : decode cL_law 40 = .ok (.aload_n 1, 1) := by decide +kernel
theorem dL_law_41 : decode cL_law 41 = .ok (.iconst 0, 1) := by decide +kernel
theorem dL_law_42 : decode cL_law 42 = .ok (.sipush 201, 3) := by decide +kernel
theorem dL_law_45 : decode cL_law 45 = .ok (.invokevirtual 39, 3) := by decide +kernel
theorem dL_law_48 : decode cL_law 48 = .ok (.sipush (-1002), 3) := by decide +kernel
theorem dL_law_51 : decode cL_law 51 = .ok (.if_icmp .ne 84, 3) := by decide +kernel
theorem dL_law_54 : decode cL_law 54 = .ok (.aload_n 1, 1) := by decide +kernel
theorem dL_law_55 : decode cL_law 55 = .ok (.iconst 3, 1) := by decide +kernel
theorem dL_law_56 : decode cL_law 56 = .ok (.iconst 0, 1) := by decide +kernel
theorem dL_law_57 : decode cL_law 57 = .ok (.iconst 0, 1) := by decide +kernel
theorem dL_law_58 : decode cL_law 58 = .ok (.invokevirtual 42, 3) := by decide +kernel
theorem dL_law_61 : decode cL_law 61 = .ok (.sipush (-1002), 3) := by decide +kernel
theorem dL_law_64 : decode cL_law 64 = .ok (.if_icmp .ne 71, 3) := by decide +kernel
theorem dL_law_67 : decode cL_law 67 = .ok (.aload_n 1, 1) := by decide +kernel
theorem dL_law_68 : decode cL_law 68 = .ok (.invokevirtual 87, 3) := by decide +kernel
theorem dL_law_71 : decode cL_law 71 = .ok (.sipush (-1003), 3) := by decide +kernel
theorem dL_law_74 : decode cL_law 74 = .ok (.if_icmp .ne 61, 3) := by decide +kernel
theorem dL_law_77 : decode cL_law 77 = .ok (.aload_n 1, 1) := by decide +kernel
theorem dL_law_78 : decode cL_law 78 = .ok (.iconst 0, 1) := by decide +kernel
theorem dL_law_79 : decode cL_law 79 = .ok (.invokevirtual 91, 3) := by decide +kernel
theorem dL_law_82 : decode cL_law 82 = .ok (.sipush (-1002), 3) := by decide +kernel
theorem dL_law_85 : decode cL_law 85 = .ok (.if_icmp .ne 50, 3) := by decide +kernel
theorem dL_law_88 : decode cL_law 88 = .ok (.aload_n 1, 1) := by decide +kernel
theorem dL_law_89 : decode cL_law 89 = .ok (.iconst 0, 1) := by decide +kernel
theorem dL_law_90 : decode cL_law 90 = .ok (.invokevirtual 54, 3) := by decide +kernel
theorem dL_law_93 : decode cL_law 93 = .ok (.sipush (-1002), 3) := by decide +kernel
theorem dL_law_96 : decode cL_law 96 = .ok (.if_icmp .ne 39, 3) := by decide +kernel
theorem dL_law_99 : decode cL_law 99 = .ok (.aload_n 1, 1) := by decide +kernel
theorem dL_law_100 : decode cL_law 100 = .ok (.iconst 0, 1) := by decide +kernel
theorem dL_law_101 : decode cL_law 101 = .ok (.iconst 0, 1) := by decide +kernel
theorem dL_law_102 : decode cL_law 102 = .ok (.iconst 2, 1) := by decide +kernel
theorem dL_law_103 : decode cL_law 103 = .ok (.invokevirtual 57, 3) := by decide +kernel
theorem dL_law_106 : decode cL_law 106 = .ok (.sipush (-1002), 3) := by decide +kernel
theorem dL_law_109 : decode cL_law 109 = .ok (.if_icmp .ne 26, 3) := by decide +kernel
theorem dL_law_112 : decode cL_law 112 = .ok (.aload_n 1, 1) := by decide +kernel
theorem dL_law_113 : decode cL_law 113 = .ok (.iconst 0, 1) := by decide +kernel
theorem dL_law_114 : decode cL_law 114 = .ok (.iconst 5, 1) := by decide +kernel
theorem dL_law_115 : decode cL_law 115 = .ok (.invokevirtual 60, 3) := by decide +kernel
theorem dL_law_118 : decode cL_law 118 = .ok (.sipush (-1002), 3) := by decide +kernel
theorem dL_law_121 : decode cL_law 121 = .ok (.if_icmp .ne 14, 3) := by decide +kernel
theorem dL_law_124 : decode cL_law 124 = .ok (.aload_n 1, 1) := by decide +kernel
theorem dL_law_125 : decode cL_law 125 = .ok (.aload_n 2, 1) := by decide +kernel
theorem dL_law_126 : decode cL_law 126 = .ok (.aload_n 3, 1) := by decide +kernel
theorem dL_law_127 : decode cL_law 127 = .ok (.aload 4, 2) := by decide +kernel
theorem dL_law_129 : decode cL_law 129 = .ok (.invokestatic 94, 3) := by decide +kernel
theorem dL_law_132 : decode cL_law 132 = .ok (.ifCond .ne 5, 3) := by decide +kernel
theorem dL_law_135 : decode cL_law 135 = .ok (.iconst 0, 1) := by decide +kernel
theorem dL_law_136 : decode cL_law 136 = .ok (.ireturn, 1) := by decide +kernel
theorem dL_law_137 : decode cL_law 137 = .ok (.aload_n 0, 1) := by decide +kernel
theorem dL_law_138 : decode cL_law 138 = .ok (.iconst 0, 1) := by decide +kernel
theorem dL_law_139 : decode cL_law 139 = .ok (.invokestatic 98, 3) := by decide +kernel
theorem dL_law_142 : decode cL_law 142 = .ok (.istore 5, 2) := by decide +kernel
theorem dL_law_144 : decode cL_law 144 = .ok (.aload_n 1, 1) := by decide +kernel
theorem dL_law_145 : decode cL_law 145 = .ok (.aload_n 3, 1) := by decide +kernel
theorem dL_law_146 : decode cL_law 146 = .ok (.iconst 0, 1) := by decide +kernel
theorem dL_law_147 : decode cL_law 147 = .ok (.iconst 1, 1) := by decide +kernel
theorem dL_law_148 : decode cL_law 148 = .ok (.iload 5, 2) := by decide +kernel
theorem dL_law_150 : decode cL_law 150 = .ok (.sipush 200, 3) := by decide +kernel
theorem dL_law_153 : decode cL_law 153 = .ok (.invokestatic 101, 3) := by decide +kernel
theorem dL_law_156 : decode cL_law 156 = .ok (.iadd, 1) := by decide +kernel
theorem dL_law_157 : decode cL_law 157 = .ok (.invokestatic 104, 3) := by decide +kernel
theorem dL_law_160 : decode cL_law 160 = .ok (.ifCond .eq 65, 3) := by decide +kernel
theorem dL_law_163 : decode cL_law 163 = .ok (.aload_n 1, 1) := by decide +kernel
theorem dL_law_164 : decode cL_law 164 = .ok (.aload_n 3, 1) := by decide +kernel
theorem dL_law_165 : decode cL_law 165 = .ok (.iconst 1, 1) := by decide +kernel
theorem dL_law_166 : decode cL_law 166 = .ok (.iconst 1, 1) := by decide +kernel
theorem dL_law_167 : decode cL_law 167 = .ok (.iload 5, 2) := by decide +kernel
theorem dL_law_169 : decode cL_law 169 = .ok (.bipush 8, 2) := by decide +kernel
theorem dL_law_171 : decode cL_law 171 = .ok (.ishr, 1) := by decide +kernel
theorem dL_law_172 : decode cL_law 172 = .ok (.bipush 120, 2) := by decide +kernel
theorem dL_law_174 : decode cL_law 174 = .ok (.invokestatic 101, 3) := by decide +kernel
theorem dL_law_177 : decode cL_law 177 = .ok (.iadd, 1) := by decide +kernel
theorem dL_law_178 : decode cL_law 178 = .ok (.invokestatic 104, 3) := by decide +kernel
theorem dL_law_181 : decode cL_law 181 = .ok (.ifCond .eq 44, 3) := by decide +kernel
theorem dL_law_184 : decode cL_law 184 = .ok (.aload_n 1, 1) := by decide +kernel
theorem dL_law_185 : decode cL_law 185 = .ok (.aload_n 3, 1) := by decide +kernel
theorem dL_law_186 : decode cL_law 186 = .ok (.iconst 0, 1) := by decide +kernel
theorem dL_law_187 : decode cL_law 187 = .ok (.iconst 1, 1) := by decide +kernel
theorem dL_law_188 : decode cL_law 188 = .ok (.iload 5, 2) := by decide +kernel
theorem dL_law_190 : decode cL_law 190 = .ok (.bipush 16, 2) := by decide +kernel
theorem dL_law_192 : decode cL_law 192 = .ok (.ishr, 1) := by decide +kernel
theorem dL_law_193 : decode cL_law 193 = .ok (.bipush 6, 2) := by decide +kernel
theorem dL_law_195 : decode cL_law 195 = .ok (.invokestatic 101, 3) := by decide +kernel
theorem dL_law_198 : decode cL_law 198 = .ok (.iadd, 1) := by decide +kernel
theorem dL_law_199 : decode cL_law 199 = .ok (.invokestatic 108, 3) := by decide +kernel
theorem dL_law_202 : decode cL_law 202 = .ok (.ifCond .eq 23, 3) := by decide +kernel
theorem dL_law_205 : decode cL_law 205 = .ok (.aload_n 1, 1) := by decide +kernel
theorem dL_law_206 : decode cL_law 206 = .ok (.aload_n 3, 1) := by decide +kernel
theorem dL_law_207 : decode cL_law 207 = .ok (.iconst 3, 1) := by decide +kernel
theorem dL_law_208 : decode cL_law 208 = .ok (.iload 5, 2) := by decide +kernel
theorem dL_law_210 : decode cL_law 210 = .ok (.bipush 20, 2) := by decide +kernel
theorem dL_law_212 : decode cL_law 212 = .ok (.ishr, 1) := by decide +kernel
theorem dL_law_213 : decode cL_law 213 = .ok (.sipush 150, 3) := by decide +kernel
theorem dL_law_216 : decode cL_law 216 = .ok (.invokestatic 101, 3) := by decide +kernel
theorem dL_law_219 : decode cL_law 219 = .ok (.invokestatic 108, 3) := by decide +kernel
theorem dL_law_222 : decode cL_law 222 = .ok (.ifCond .ne 5, 3) := by decide +kernel
theorem dL_law_225 : decode cL_law 225 = .ok (.iconst 0, 1) := by decide +kernel
theorem dL_law_226 : decode cL_law 226 = .ok (.ireturn, 1) := by decide +kernel
theorem dL_law_227 : decode cL_law 227 = .ok (.iconst 0, 1) := by decide +kernel
theorem dL_law_228 : decode cL_law 228 = .ok (.istore 6, 2) := by decide +kernel
theorem dL_law_230 : decode cL_law 230 = .ok (.iload 6, 2) := by decide +kernel
theorem dL_law_232 : decode cL_law 232 = .ok (.bipush 26, 2) := by decide +kernel
theorem dL_law_234 : decode cL_law 234 = .ok (.if_icmp .ge 410, 3) := by decide +kernel
theorem dL_law_237 : decode cL_law 237 = .ok (.aload_n 0, 1) := by decide +kernel
theorem dL_law_238 : decode cL_law 238 = .ok (.iconst 1, 1) := by decide +kernel
theorem dL_law_239 : decode cL_law 239 = .ok (.iload 6, 2) := by decide +kernel
theorem dL_law_241 : decode cL_law 241 = .ok (.iadd, 1) := by decide +kernel
theorem dL_law_242 : decode cL_law 242 = .ok (.invokestatic 98, 3) := by decide +kernel
theorem dL_law_245 : decode cL_law 245 = .ok (.istore 7, 2) := by decide +kernel
theorem dL_law_247 : decode cL_law 247 = .ok (.iload 7, 2) := by decide +kernel
theorem dL_law_249 : decode cL_law 249 = .ok (.iconst 4, 1) := by decide +kernel
theorem dL_law_250 : decode cL_law 250 = .ok (.ishr, 1) := by decide +kernel
theorem dL_law_251 : decode cL_law 251 = .ok (.aload_n 3, 1) := by decide +kernel
theorem dL_law_252 : decode cL_law 252 = .ok (.bipush 48, 2) := by decide +kernel
theorem dL_law_254 : decode cL_law 254 = .ok (.iaload, 1) := by decide +kernel
theorem dL_law_255 : decode cL_law 255 = .ok (.invokestatic 101, 3) := by decide +kernel
theorem dL_law_258 : decode cL_law 258 = .ok (.istore 8, 2) := by decide +kernel
theorem dL_law_260 : decode cL_law 260 = .ok (.iload 7, 2) := by decide +kernel
theorem dL_law_262 : decode cL_law 262 = .ok (.bipush 13, 2) := by decide +kernel
theorem dL_law_264 : decode cL_law 264 = .ok (.invokestatic 101, 3) := by decide +kernel
theorem dL_law_267 : decode cL_law 267 = .ok (.tableswitch 316 0 8 #[49, 73, 115, 156, 268, 268, 286, 286, 286], 49) := by decide +kernel
theorem dL_law_316 : decode cL_law 316 = .ok (.aload_n 1, 1) := by decide +kernel
theorem dL_law_317 : decode cL_law 317 = .ok (.aload_n 3, 1) := by decide +kernel
theorem dL_law_318 : decode cL_law 318 = .ok (.iload 8, 2) := by decide +kernel
theorem dL_law_320 : decode cL_law 320 = .ok (.iconst 1, 1) := by decide +kernel
theorem dL_law_321 : decode cL_law 321 = .ok (.iload 7, 2) := by decide +kernel
theorem dL_law_323 : decode cL_law 323 = .ok (.bipush 7, 2) := by decide +kernel
theorem dL_law_325 : decode cL_law 325 = .ok (.ishr, 1) := by decide +kernel
theorem dL_law_326 : decode cL_law 326 = .ok (.bipush 90, 2) := by decide +kernel
theorem dL_law_328 : decode cL_law 328 = .ok (.invokestatic 101, 3) := by decide +kernel
theorem dL_law_331 : decode cL_law 331 = .ok (.iadd, 1) := by decide +kernel
theorem dL_law_332 : decode cL_law 332 = .ok (.invokestatic 104, 3) := by decide +kernel
theorem dL_law_335 : decode cL_law 335 = .ok (.istore 9, 2) := by decide +kernel
theorem dL_law_337 : decode cL_law 337 = .ok (.goto 283, 3) := by decide +kernel
theorem dL_law_340 : decode cL_law 340 = .ok (.iload 7, 2) := by decide +kernel
theorem dL_law_342 : decode cL_law 342 = .ok (.bipush 7, 2) := by decide +kernel
theorem dL_law_344 : decode cL_law 344 = .ok (.ishr, 1) := by decide +kernel
theorem dL_law_345 : decode cL_law 345 = .ok (.iconst 5, 1) := by decide +kernel
theorem dL_law_346 : decode cL_law 346 = .ok (.invokestatic 101, 3) := by decide +kernel
theorem dL_law_349 : decode cL_law 349 = .ok (.ifCond .gt 23, 3) := by decide +kernel
theorem dL_law_352 : decode cL_law 352 = .ok (.aload_n 1, 1) := by decide +kernel
theorem dL_law_353 : decode cL_law 353 = .ok (.aload_n 3, 1) := by decide +kernel
theorem dL_law_354 : decode cL_law 354 = .ok (.iconst 1, 1) := by decide +kernel
theorem dL_law_355 : decode cL_law 355 = .ok (.iload 7, 2) := by decide +kernel
theorem dL_law_357 : decode cL_law 357 = .ok (.bipush 10, 2) := by decide +kernel
theorem dL_law_359 : decode cL_law 359 = .ok (.ishr, 1) := by decide +kernel
theorem dL_law_360 : decode cL_law 360 = .ok (.bipush 6, 2) := by decide +kernel
theorem dL_law_362 : decode cL_law 362 = .ok (.invokestatic 101, 3) := by decide +kernel
theorem dL_law_365 : decode cL_law 365 = .ok (.iadd, 1) := by decide +kernel
theorem dL_law_366 : decode cL_law 366 = .ok (.invokestatic 111, 3) := by decide +kernel
theorem dL_law_369 : decode cL_law 369 = .ok (.ifCond .eq 7, 3) := by decide +kernel
theorem dL_law_372 : decode cL_law 372 = .ok (.iconst 1, 1) := by decide +kernel
theorem dL_law_373 : decode cL_law 373 = .ok (.goto 4, 3) := by decide +kernel
theorem dL_law_376 : decode cL_law 376 = .ok (.iconst 0, 1) := by decide +kernel
theorem dL_law_377 : decode cL_law 377 = .ok (.istore 9, 2) := by decide +kernel
theorem dL_law_379 : decode cL_law 379 = .ok (.goto 241, 3) := by decide +kernel
theorem dL_law_382 : decode cL_law 382 = .ok (.aload_n 1, 1) := by decide +kernel
theorem dL_law_383 : decode cL_law 383 = .ok (.aload_n 2, 1) := by decide +kernel
theorem dL_law_384 : decode cL_law 384 = .ok (.aload_n 3, 1) := by decide +kernel
theorem dL_law_385 : decode cL_law 385 = .ok (.iload 7, 2) := by decide +kernel
theorem dL_law_387 : decode cL_law 387 = .ok (.iconst 4, 1) := by decide +kernel
theorem dL_law_388 : decode cL_law 388 = .ok (.ishr, 1) := by decide +kernel
theorem dL_law_389 : decode cL_law 389 = .ok (.bipush 40, 2) := by decide +kernel
theorem dL_law_391 : decode cL_law 391 = .ok (.invokestatic 101, 3) := by decide +kernel
theorem dL_law_394 : decode cL_law 394 = .ok (.iload 7, 2) := by decide +kernel
theorem dL_law_396 : decode cL_law 396 = .ok (.bipush 10, 2) := by decide +kernel
theorem dL_law_398 : decode cL_law 398 = .ok (.ishr, 1) := by decide +kernel
theorem dL_law_399 : decode cL_law 399 = .ok (.iconst 3, 1) := by decide +kernel
theorem dL_law_400 : decode cL_law 400 = .ok (.invokestatic 101, 3) := by decide +kernel
theorem dL_law_403 : decode cL_law 403 = .ok (.iconst 1, 1) := by decide +kernel
theorem dL_law_404 : decode cL_law 404 = .ok (.iload 7, 2) := by decide +kernel
theorem dL_law_406 : decode cL_law 406 = .ok (.bipush 12, 2) := by decide +kernel
theorem dL_law_408 : decode cL_law 408 = .ok (.ishr, 1) := by decide +kernel
theorem dL_law_409 : decode cL_law 409 = .ok (.bipush 60, 2) := by decide +kernel
theorem dL_law_411 : decode cL_law 411 = .ok (.invokestatic 101, 3) := by decide +kernel
theorem dL_law_414 : decode cL_law 414 = .ok (.iadd, 1) := by decide +kernel
theorem dL_law_415 : decode cL_law 415 = .ok (.invokestatic 115, 3) := by decide +kernel
theorem dL_law_418 : decode cL_law 418 = .ok (.istore 9, 2) := by decide +kernel
theorem dL_law_420 : decode cL_law 420 = .ok (.goto 200, 3) := by decide +kernel
theorem dL_law_423 : decode cL_law 423 = .ok (.iload 7, 2) := by decide +kernel
theorem dL_law_425 : decode cL_law 425 = .ok (.iconst 4, 1) := by decide +kernel
theorem dL_law_426 : decode cL_law 426 = .ok (.ishr, 1) := by decide +kernel
theorem dL_law_427 : decode cL_law 427 = .ok (.iconst 5, 1) := by decide +kernel
theorem dL_law_428 : decode cL_law 428 = .ok (.invokestatic 101, 3) := by decide +kernel
theorem dL_law_431 : decode cL_law 431 = .ok (.istore 10, 2) := by decide +kernel
theorem dL_law_433 : decode cL_law 433 = .ok (.aload_n 1, 1) := by decide +kernel
theorem dL_law_434 : decode cL_law 434 = .ok (.aload_n 3, 1) := by decide +kernel
theorem dL_law_435 : decode cL_law 435 = .ok (.iload 10, 2) := by decide +kernel
theorem dL_law_437 : decode cL_law 437 = .ok (.iload 10, 2) := by decide +kernel
theorem dL_law_439 : decode cL_law 439 = .ok (.ifCond .ne 18, 3) := by decide +kernel
theorem dL_law_442 : decode cL_law 442 = .ok (.iconst 1, 1) := by decide +kernel
theorem dL_law_443 : decode cL_law 443 = .ok (.iload 7, 2) := by decide +kernel
theorem dL_law_445 : decode cL_law 445 = .ok (.bipush 7, 2) := by decide +kernel
theorem dL_law_447 : decode cL_law 447 = .ok (.ishr, 1) := by decide +kernel
theorem dL_law_448 : decode cL_law 448 = .ok (.bipush 20, 2) := by decide +kernel
theorem dL_law_450 : decode cL_law 450 = .ok (.invokestatic 101, 3) := by decide +kernel
theorem dL_law_453 : decode cL_law 453 = .ok (.iadd, 1) := by decide +kernel
theorem dL_law_454 : decode cL_law 454 = .ok (.goto 73, 3) := by decide +kernel
theorem dL_law_457 : decode cL_law 457 = .ok (.iload 10, 2) := by decide +kernel
theorem dL_law_459 : decode cL_law 459 = .ok (.iconst 1, 1) := by decide +kernel
theorem dL_law_460 : decode cL_law 460 = .ok (.if_icmp .ne 18, 3) := by decide +kernel
theorem dL_law_463 : decode cL_law 463 = .ok (.iconst 1, 1) := by decide +kernel
theorem dL_law_464 : decode cL_law 464 = .ok (.iload 7, 2) := by decide +kernel
theorem dL_law_466 : decode cL_law 466 = .ok (.bipush 7, 2) := by decide +kernel
theorem dL_law_468 : decode cL_law 468 = .ok (.ishr, 1) := by decide +kernel
theorem dL_law_469 : decode cL_law 469 = .ok (.bipush 60, 2) := by decide +kernel
theorem dL_law_471 : decode cL_law 471 = .ok (.invokestatic 101, 3) := by decide +kernel
theorem dL_law_474 : decode cL_law 474 = .ok (.iadd, 1) := by decide +kernel
theorem dL_law_475 : decode cL_law 475 = .ok (.goto 52, 3) := by decide +kernel
theorem dL_law_478 : decode cL_law 478 = .ok (.iload 10, 2) := by decide +kernel
theorem dL_law_480 : decode cL_law 480 = .ok (.iconst 2, 1) := by decide +kernel
theorem dL_law_481 : decode cL_law 481 = .ok (.if_icmp .ne 16, 3) := by decide +kernel
theorem dL_law_484 : decode cL_law 484 = .ok (.iload 7, 2) := by decide +kernel
theorem dL_law_486 : decode cL_law 486 = .ok (.bipush 7, 2) := by decide +kernel
theorem dL_law_488 : decode cL_law 488 = .ok (.ishr, 1) := by decide +kernel
theorem dL_law_489 : decode cL_law 489 = .ok (.bipush 10, 2) := by decide +kernel
theorem dL_law_491 : decode cL_law 491 = .ok (.invokestatic 101, 3) := by decide +kernel
theorem dL_law_494 : decode cL_law 494 = .ok (.goto 33, 3) := by decide +kernel
theorem dL_law_497 : decode cL_law 497 = .ok (.iload 10, 2) := by decide +kernel
theorem dL_law_499 : decode cL_law 499 = .ok (.iconst 3, 1) := by decide +kernel
theorem dL_law_500 : decode cL_law 500 = .ok (.if_icmp .ne 17, 3) := by decide +kernel
theorem dL_law_503 : decode cL_law 503 = .ok (.iload 7, 2) := by decide +kernel
theorem dL_law_505 : decode cL_law 505 = .ok (.bipush 7, 2) := by decide +kernel
theorem dL_law_507 : decode cL_law 507 = .ok (.ishr, 1) := by decide +kernel
theorem dL_law_508 : decode cL_law 508 = .ok (.sipush 201, 3) := by decide +kernel
theorem dL_law_511 : decode cL_law 511 = .ok (.invokestatic 101, 3) := by decide +kernel
theorem dL_law_514 : decode cL_law 514 = .ok (.goto 13, 3) := by decide +kernel
theorem dL_law_517 : decode cL_law 517 = .ok (.iload 7, 2) := by decide +kernel
theorem dL_law_519 : decode cL_law 519 = .ok (.bipush 7, 2) := by decide +kernel
theorem dL_law_521 : decode cL_law 521 = .ok (.ishr, 1) := by decide +kernel
theorem dL_law_522 : decode cL_law 522 = .ok (.bipush 61, 2) := by decide +kernel
theorem dL_law_524 : decode cL_law 524 = .ok (.invokestatic 101, 3) := by decide +kernel
theorem dL_law_527 : decode cL_law 527 = .ok (.invokestatic 108, 3) := by decide +kernel
theorem dL_law_530 : decode cL_law 530 = .ok (.istore 9, 2) := by decide +kernel
theorem dL_law_532 : decode cL_law 532 = .ok (.goto 88, 3) := by decide +kernel
theorem dL_law_535 : decode cL_law 535 = .ok (.aload_n 1, 1) := by decide +kernel
theorem dL_law_536 : decode cL_law 536 = .ok (.aload_n 3, 1) := by decide +kernel
theorem dL_law_537 : decode cL_law 537 = .ok (.iload 7, 2) := by decide +kernel
theorem dL_law_539 : decode cL_law 539 = .ok (.iconst 4, 1) := by decide +kernel
theorem dL_law_540 : decode cL_law 540 = .ok (.ishr, 1) := by decide +kernel
theorem dL_law_541 : decode cL_law 541 = .ok (.iconst 4, 1) := by decide +kernel
theorem dL_law_542 : decode cL_law 542 = .ok (.invokestatic 101, 3) := by decide +kernel
theorem dL_law_545 : decode cL_law 545 = .ok (.invokestatic 119, 3) := by decide +kernel
theorem dL_law_548 : decode cL_law 548 = .ok (.istore 9, 2) := by decide +kernel
theorem dL_law_550 : decode cL_law 550 = .ok (.goto 70, 3) := by decide +kernel
theorem dL_law_553 : decode cL_law 553 = .ok (.aload_n 1, 1) := by decide +kernel
theorem dL_law_554 : decode cL_law 554 = .ok (.aload_n 3, 1) := by decide +kernel
theorem dL_law_555 : decode cL_law 555 = .ok (.iload 8, 2) := by decide +kernel
theorem dL_law_557 : decode cL_law 557 = .ok (.iload 7, 2) := by decide +kernel
theorem dL_law_559 : decode cL_law 559 = .ok (.bipush 7, 2) := by decide +kernel
theorem dL_law_561 : decode cL_law 561 = .ok (.ishr, 1) := by decide +kernel
theorem dL_law_562 : decode cL_law 562 = .ok (.iconst 3, 1) := by decide +kernel
theorem dL_law_563 : decode cL_law 563 = .ok (.invokestatic 101, 3) := by decide +kernel
theorem dL_law_566 : decode cL_law 566 = .ok (.iload 7, 2) := by decide +kernel
theorem dL_law_568 : decode cL_law 568 = .ok (.bipush 9, 2) := by decide +kernel
theorem dL_law_570 : decode cL_law 570 = .ok (.ishr, 1) := by decide +kernel
theorem dL_law_571 : decode cL_law 571 = .ok (.iconst 4, 1) := by decide +kernel
theorem dL_law_572 : decode cL_law 572 = .ok (.invokestatic 101, 3) := by decide +kernel
theorem dL_law_575 : decode cL_law 575 = .ok (.invokestatic 122, 3) := by decide +kernel
theorem dL_law_578 : decode cL_law 578 = .ok (.istore 9, 2) := by decide +kernel
theorem dL_law_580 : decode cL_law 580 = .ok (.goto 40, 3) := by decide +kernel
theorem dL_law_583 : decode cL_law 583 = .ok (.aload_n 1, 1) := by decide +kernel
theorem dL_law_584 : decode cL_law 584 = .ok (.aload_n 2, 1) := by decide +kernel
theorem dL_law_585 : decode cL_law 585 = .ok (.aload_n 3, 1) := by decide +kernel
theorem dL_law_586 : decode cL_law 586 = .ok (.aload 4, 2) := by decide +kernel
theorem dL_law_588 : decode cL_law 588 = .ok (.iconst 1, 1) := by decide +kernel
theorem dL_law_589 : decode cL_law 589 = .ok (.iload 7, 2) := by decide +kernel
theorem dL_law_591 : decode cL_law 591 = .ok (.iconst 4, 1) := by decide +kernel
theorem dL_law_592 : decode cL_law 592 = .ok (.ishr, 1) := by decide +kernel
theorem dL_law_593 : decode cL_law 593 = .ok (.iload 7, 2) := by decide +kernel
theorem dL_law_595 : decode cL_law 595 = .ok (.bipush 9, 2) := by decide +kernel
theorem dL_law_597 : decode cL_law 597 = .ok (.ishr, 1) := by decide +kernel
theorem dL_law_598 : decode cL_law 598 = .ok (.iconst 4, 1) := by decide +kernel
theorem dL_law_599 : decode cL_law 599 = .ok (.invokestatic 101, 3) := by decide +kernel
theorem dL_law_602 : decode cL_law 602 = .ok (.ifCond .ne 8, 3) := by decide +kernel
theorem dL_law_605 : decode cL_law 605 = .ok (.bipush 30, 2) := by decide +kernel
theorem dL_law_607 : decode cL_law 607 = .ok (.goto 4, 3) := by decide +kernel
theorem dL_law_610 : decode cL_law 610 = .ok (.iconst 4, 1) := by decide +kernel
theorem dL_law_611 : decode cL_law 611 = .ok (.invokestatic 101, 3) := by decide +kernel
theorem dL_law_614 : decode cL_law 614 = .ok (.iadd, 1) := by decide +kernel
theorem dL_law_615 : decode cL_law 615 = .ok (.invokestatic 126, 3) := by decide +kernel
theorem dL_law_618 : decode cL_law 618 = .ok (.istore 9, 2) := by decide +kernel
theorem dL_law_620 : decode cL_law 620 = .ok (.iload 9, 2) := by decide +kernel
theorem dL_law_622 : decode cL_law 622 = .ok (.ifCond .eq 14, 3) := by decide +kernel
theorem dL_law_625 : decode cL_law 625 = .ok (.aload_n 1, 1) := by decide +kernel
theorem dL_law_626 : decode cL_law 626 = .ok (.aload_n 2, 1) := by decide +kernel
theorem dL_law_627 : decode cL_law 627 = .ok (.aload_n 3, 1) := by decide +kernel
theorem dL_law_628 : decode cL_law 628 = .ok (.aload 4, 2) := by decide +kernel
theorem dL_law_630 : decode cL_law 630 = .ok (.invokestatic 94, 3) := by decide +kernel
theorem dL_law_633 : decode cL_law 633 = .ok (.ifCond .ne 5, 3) := by decide +kernel
theorem dL_law_636 : decode cL_law 636 = .ok (.iconst 0, 1) := by decide +kernel
theorem dL_law_637 : decode cL_law 637 = .ok (.ireturn, 1) := by decide +kernel
theorem dL_law_638 : decode cL_law 638 = .ok (.iinc 6 1, 3) := by decide +kernel
theorem dL_law_641 : decode cL_law 641 = .ok (.goto (-411), 3) := by decide +kernel
theorem dL_law_644 : decode cL_law 644 = .ok (.aload_n 3, 1) := by decide +kernel
theorem dL_law_645 : decode cL_law 645 = .ok (.bipush 54, 2) := by decide +kernel
theorem dL_law_647 : decode cL_law 647 = .ok (.iaload, 1) := by decide +kernel
theorem dL_law_648 : decode cL_law 648 = .ok (.aload_n 3, 1) := by decide +kernel
theorem dL_law_649 : decode cL_law 649 = .ok (.invokestatic 72, 3) := by decide +kernel
theorem dL_law_652 : decode cL_law 652 = .ok (.aload_n 2, 1) := by decide +kernel
theorem dL_law_653 : decode cL_law 653 = .ok (.iconst 0, 1) := by decide +kernel
theorem dL_law_654 : decode cL_law 654 = .ok (.invokestatic 68, 3) := by decide +kernel
theorem dL_law_657 : decode cL_law 657 = .ok (.iadd, 1) := by decide +kernel
theorem dL_law_658 : decode cL_law 658 = .ok (.aload_n 2, 1) := by decide +kernel
theorem dL_law_659 : decode cL_law 659 = .ok (.iconst 1, 1) := by decide +kernel
theorem dL_law_660 : decode cL_law 660 = .ok (.invokestatic 68, 3) := by decide +kernel
theorem dL_law_663 : decode cL_law 663 = .ok (.iadd, 1) := by decide +kernel
theorem dL_law_664 : decode cL_law 664 = .ok (.aload_n 2, 1) := by decide +kernel
theorem dL_law_665 : decode cL_law 665 = .ok (.iconst 2, 1) := by decide +kernel
theorem dL_law_666 : decode cL_law 666 = .ok (.invokestatic 68, 3) := by decide +kernel
theorem dL_law_669 : decode cL_law 669 = .ok (.iadd, 1) := by decide +kernel
theorem dL_law_670 : decode cL_law 670 = .ok (.aload_n 3, 1) := by decide +kernel
theorem dL_law_671 : decode cL_law 671 = .ok (.bipush 55, 2) := by decide +kernel
theorem dL_law_673 : decode cL_law 673 = .ok (.iaload, 1) := by decide +kernel
theorem dL_law_674 : decode cL_law 674 = .ok (.iadd, 1) := by decide +kernel
theorem dL_law_675 : decode cL_law 675 = .ok (.aload_n 3, 1) := by decide +kernel
theorem dL_law_676 : decode cL_law 676 = .ok (.bipush 56, 2) := by decide +kernel
theorem dL_law_678 : decode cL_law 678 = .ok (.iaload, 1) := by decide +kernel
theorem dL_law_679 : decode cL_law 679 = .ok (.iadd, 1) := by decide +kernel
theorem dL_law_680 : decode cL_law 680 = .ok (.if_icmp .ne 19, 3) := by decide +kernel
theorem dL_law_683 : decode cL_law 683 = .ok (.aload_n 1, 1) := by decide +kernel
theorem dL_law_684 : decode cL_law 684 = .ok (.bipush 19, 2) := by decide +kernel
theorem dL_law_686 : decode cL_law 686 = .ok (.invokevirtual 65, 3) := by decide +kernel
theorem dL_law_689 : decode cL_law 689 = .ok (.sipush (-1002), 3) := by decide +kernel
theorem dL_law_692 : decode cL_law 692 = .ok (.if_icmp .ne 7, 3) := by decide +kernel
theorem dL_law_695 : decode cL_law 695 = .ok (.iconst 1, 1) := by decide +kernel
theorem dL_law_696 : decode cL_law 696 = .ok (.goto 4, 3) := by decide +kernel
theorem dL_law_699 : decode cL_law 699 = .ok (.iconst 0, 1) := by decide +kernel
theorem dL_law_700 : decode cL_law 700 = .ok (.ireturn, 1) := by decide +kernel

theorem dX7_cell_17 : decode cX7_cell 17 = .ok (.aload_n 0, 1) := by decide +kernel
theorem dX7_cell_18 : decode cX7_cell 18 = .ok (.getfield 44, 3) := by decide +kernel
theorem dX7_cell_21 : decode cX7_cell 21 = .ok (.iload_n 1, 1) := by decide +kernel
theorem dX7_cell_22 : decode cX7_cell 22 = .ok (.iconst 2, 1) := by decide +kernel
theorem dX7_cell_23 : decode cX7_cell 23 = .ok (.iadd, 1) := by decide +kernel
theorem dX7_cell_24 : decode cX7_cell 24 = .ok (.if_icmp .ge 36, 3) := by decide +kernel
theorem dX7_cell_27 : decode cX7_cell 27 = .ok (.aload_n 0, 1) := by decide +kernel
theorem dX7_cell_28 : decode cX7_cell 28 = .ok (.invokevirtual 64, 3) := by decide +kernel
theorem dX7_cell_31 : decode cX7_cell 31 = .ok (.ifCond .eq 29, 3) := by decide +kernel
theorem dX7_cell_34 : decode cX7_cell 34 = .ok (.bipush 10, 2) := by decide +kernel
theorem dX7_cell_36 : decode cX7_cell 36 = .ok (.iload_n 2, 1) := by decide +kernel
theorem dX7_cell_37 : decode cX7_cell 37 = .ok (.imul, 1) := by decide +kernel
theorem dX7_cell_38 : decode cX7_cell 38 = .ok (.aload_n 0, 1) := by decide +kernel
theorem dX7_cell_39 : decode cX7_cell 39 = .ok (.invokevirtual 47, 3) := by decide +kernel
theorem dX7_cell_42 : decode cX7_cell 42 = .ok (.iadd, 1) := by decide +kernel
theorem dX7_cell_43 : decode cX7_cell 43 = .ok (.bipush 48, 2) := by decide +kernel
theorem dX7_cell_45 : decode cX7_cell 45 = .ok (.isub, 1) := by decide +kernel
theorem dX7_cell_46 : decode cX7_cell 46 = .ok (.istore_n 2, 1) := by decide +kernel
theorem dX7_cell_47 : decode cX7_cell 47 = .ok (.aload_n 0, 1) := by decide +kernel
theorem dX7_cell_48 : decode cX7_cell 48 = .ok (.dup, 1) := by decide +kernel
theorem dX7_cell_49 : decode cX7_cell 49 = .ok (.getfield 44, 3) := by decide +kernel
theorem dX7_cell_52 : decode cX7_cell 52 = .ok (.iconst 1, 1) := by decide +kernel
theorem dX7_cell_53 : decode cX7_cell 53 = .ok (.iadd, 1) := by decide +kernel
theorem dX7_cell_54 : decode cX7_cell 54 = .ok (.putfield 44, 3) := by decide +kernel
theorem dX7_cell_57 : decode cX7_cell 57 = .ok (.goto (-50), 3) := by decide +kernel
theorem dX7_cell_60 : decode cX7_cell 60 = .ok (.aload_n 0, 1) := by decide +kernel
theorem dX7_cell_61 : decode cX7_cell 61 = .ok (.getfield 44, 3) := by decide +kernel
theorem dX7_cell_64 : decode cX7_cell 64 = .ok (.iload_n 1, 1) := by decide +kernel
theorem dX7_cell_65 : decode cX7_cell 65 = .ok (.if_icmp .eq 9, 3) := by decide +kernel
theorem dX7_cell_68 : decode cX7_cell 68 = .ok (.iload_n 2, 1) := by decide +kernel
theorem dX7_cell_69 : decode cX7_cell 69 = .ok (.bipush 40, 2) := by decide +kernel
theorem dX7_cell_71 : decode cX7_cell 71 = .ok (.if_icmp .lt 8, 3) := by decide +kernel
theorem dX7_cell_74 : decode cX7_cell 74 = .ok (.aload_n 0, 1) := by decide +kernel
theorem dX7_cell_75 : decode cX7_cell 75 = .ok (.iload_n 1, 1) := by decide +kernel
theorem dX7_cell_76 : decode cX7_cell 76 = .ok (.invokevirtual 57, 3) := by decide +kernel
theorem dX7_cell_79 : decode cX7_cell 79 = .ok (.aload_n 0, 1) := by decide +kernel
theorem dX7_cell_80 : decode cX7_cell 80 = .ok (.invokevirtual 64, 3) := by decide +kernel
theorem dX7_cell_83 : decode cX7_cell 83 = .ok (.ifCond .eq 11, 3) := by decide +kernel
theorem dX7_cell_86 : decode cX7_cell 86 = .ok (.aload_n 0, 1) := by decide +kernel
theorem dX7_cell_87 : decode cX7_cell 87 = .ok (.aload_n 0, 1) := by decide +kernel
theorem dX7_cell_88 : decode cX7_cell 88 = .ok (.getfield 44, 3) := by decide +kernel
theorem dX7_cell_91 : decode cX7_cell 91 = .ok (.invokevirtual 57, 3) := by decide +kernel
theorem dX7_cell_94 : decode cX7_cell 94 = .ok (.aload_n 0, 1) := by decide +kernel
theorem dX7_cell_95 : decode cX7_cell 95 = .ok (.invokevirtual 54, 3) := by decide +kernel
theorem dX7_cell_98 : decode cX7_cell 98 = .ok (.iload_n 2, 1) := by decide +kernel
theorem dX7_cell_99 : decode cX7_cell 99 = .ok (.ireturn, 1) := by decide +kernel
theorem dX7_readsOrder_0 : decode cX7_readsOrder 0 = .ok (.iconst 5, 1) := by decide +kernel
theorem dX7_readsOrder_1 : decode cX7_readsOrder 1 = .ok (.aload_n 0, 1) := by decide +kernel
theorem dX7_readsOrder_2 : decode cX7_readsOrder 2 = .ok (.getfield 68, 3) := by decide +kernel
theorem dX7_readsOrder_5 : decode cX7_readsOrder 5 = .ok (.imul, 1) := by decide +kernel
theorem dX7_readsOrder_6 : decode cX7_readsOrder 6 = .ok (.istore_n 1, 1) := by decide +kernel
theorem dX7_readsOrder_7 : decode cX7_readsOrder 7 = .ok (.aload_n 0, 1) := by decide +kernel
theorem dX7_readsOrder_8 : decode cX7_readsOrder 8 = .ok (.aload_n 0, 1) := by decide +kernel
theorem dX7_readsOrder_9 : decode cX7_readsOrder 9 = .ok (.invokevirtual 47, 3) := by decide +kernel
theorem dX7_readsOrder_12 : decode cX7_readsOrder 12 = .ok (.bipush 64, 2) := by decide +kernel
theorem dX7_readsOrder_14 : decode cX7_readsOrder 14 = .ok (.if_icmp .ne 7, 3) := by decide +kernel
theorem dX7_readsOrder_17 : decode cX7_readsOrder 17 = .ok (.iconst 1, 1) := by decide +kernel
theorem dX7_readsOrder_18 : decode cX7_readsOrder 18 = .ok (.goto 4, 3) := by decide +kernel
theorem dX7_readsOrder_21 : decode cX7_readsOrder 21 = .ok (.iconst 0, 1) := by decide +kernel
theorem dX7_readsOrder_22 : decode cX7_readsOrder 22 = .ok (.invokevirtual 60, 3) := by decide +kernel
theorem dX7_readsOrder_25 : decode cX7_readsOrder 25 = .ok (.aload_n 0, 1) := by decide +kernel
theorem dX7_readsOrder_26 : decode cX7_readsOrder 26 = .ok (.getfield 22, 3) := by decide +kernel
theorem dX7_readsOrder_29 : decode cX7_readsOrder 29 = .ok (.iload_n 1, 1) := by decide +kernel
theorem dX7_readsOrder_30 : decode cX7_readsOrder 30 = .ok (.aload_n 0, 1) := by decide +kernel
theorem dX7_readsOrder_31 : decode cX7_readsOrder 31 = .ok (.invokevirtual 71, 3) := by decide +kernel
theorem dX7_readsOrder_34 : decode cX7_readsOrder 34 = .ok (.iastore, 1) := by decide +kernel
theorem dX7_readsOrder_35 : decode cX7_readsOrder 35 = .ok (.aload_n 0, 1) := by decide +kernel
theorem dX7_readsOrder_36 : decode cX7_readsOrder 36 = .ok (.invokevirtual 47, 3) := by decide +kernel
theorem dX7_readsOrder_39 : decode cX7_readsOrder 39 = .ok (.istore_n 2, 1) := by decide +kernel
theorem dX7_readsOrder_40 : decode cX7_readsOrder 40 = .ok (.aload_n 0, 1) := by decide +kernel
theorem dX7_readsOrder_41 : decode cX7_readsOrder 41 = .ok (.iload_n 2, 1) := by decide +kernel
theorem dX7_readsOrder_42 : decode cX7_readsOrder 42 = .ok (.bipush 111, 2) := by decide +kernel
theorem dX7_readsOrder_44 : decode cX7_readsOrder 44 = .ok (.if_icmp .eq 15, 3) := by decide +kernel
theorem dX7_readsOrder_47 : decode cX7_readsOrder 47 = .ok (.iload_n 2, 1) := by decide +kernel
theorem dX7_readsOrder_48 : decode cX7_readsOrder 48 = .ok (.bipush 99, 2) := by decide +kernel
theorem dX7_readsOrder_50 : decode cX7_readsOrder 50 = .ok (.if_icmp .eq 9, 3) := by decide +kernel
theorem dX7_readsOrder_53 : decode cX7_readsOrder 53 = .ok (.iload_n 2, 1) := by decide +kernel
theorem dX7_readsOrder_54 : decode cX7_readsOrder 54 = .ok (.bipush 118, 2) := by decide +kernel
theorem dX7_readsOrder_56 : decode cX7_readsOrder 56 = .ok (.if_icmp .ne 7, 3) := by decide +kernel
theorem dX7_readsOrder_59 : decode cX7_readsOrder 59 = .ok (.iconst 1, 1) := by decide +kernel
theorem dX7_readsOrder_60 : decode cX7_readsOrder 60 = .ok (.goto 4, 3) := by decide +kernel
theorem dX7_readsOrder_63 : decode cX7_readsOrder 63 = .ok (.iconst 0, 1) := by decide +kernel
theorem dX7_readsOrder_64 : decode cX7_readsOrder 64 = .ok (.invokevirtual 60, 3) := by decide +kernel
theorem dX7_readsOrder_67 : decode cX7_readsOrder 67 = .ok (.aload_n 0, 1) := by decide +kernel
theorem dX7_readsOrder_68 : decode cX7_readsOrder 68 = .ok (.getfield 22, 3) := by decide +kernel
theorem dX7_readsOrder_71 : decode cX7_readsOrder 71 = .ok (.iload_n 1, 1) := by decide +kernel
theorem dX7_readsOrder_72 : decode cX7_readsOrder 72 = .ok (.iconst 1, 1) := by decide +kernel
theorem dX7_readsOrder_73 : decode cX7_readsOrder 73 = .ok (.iadd, 1) := by decide +kernel
theorem dX7_readsOrder_74 : decode cX7_readsOrder 74 = .ok (.iload_n 2, 1) := by decide +kernel
theorem dX7_readsOrder_75 : decode cX7_readsOrder 75 = .ok (.bipush 111, 2) := by decide +kernel
theorem dX7_readsOrder_77 : decode cX7_readsOrder 77 = .ok (.if_icmp .ne 7, 3) := by decide +kernel
theorem dX7_readsOrder_80 : decode cX7_readsOrder 80 = .ok (.iconst 0, 1) := by decide +kernel
theorem dX7_readsOrder_81 : decode cX7_readsOrder 81 = .ok (.goto 14, 3) := by decide +kernel
theorem dX7_readsOrder_84 : decode cX7_readsOrder 84 = .ok (.iload_n 2, 1) := by decide +kernel
theorem dX7_readsOrder_85 : decode cX7_readsOrder 85 = .ok (.bipush 99, 2) := by decide +kernel
theorem dX7_readsOrder_87 : decode cX7_readsOrder 87 = .ok (.if_icmp .ne 7, 3) := by decide +kernel
theorem dX7_readsOrder_90 : decode cX7_readsOrder 90 = .ok (.iconst 1, 1) := by decide +kernel
theorem dX7_readsOrder_91 : decode cX7_readsOrder 91 = .ok (.goto 4, 3) := by decide +kernel
theorem dX7_readsOrder_94 : decode cX7_readsOrder 94 = .ok (.iconst 2, 1) := by decide +kernel
theorem dX7_readsOrder_95 : decode cX7_readsOrder 95 = .ok (.iastore, 1) := by decide +kernel
theorem dX7_readsOrder_96 : decode cX7_readsOrder 96 = .ok (.aload_n 0, 1) := by decide +kernel
theorem dX7_readsOrder_97 : decode cX7_readsOrder 97 = .ok (.getfield 22, 3) := by decide +kernel
theorem dX7_readsOrder_100 : decode cX7_readsOrder 100 = .ok (.iload_n 1, 1) := by decide +kernel
theorem dX7_readsOrder_101 : decode cX7_readsOrder 101 = .ok (.iconst 2, 1) := by decide +kernel
theorem dX7_readsOrder_102 : decode cX7_readsOrder 102 = .ok (.iadd, 1) := by decide +kernel
theorem dX7_readsOrder_103 : decode cX7_readsOrder 103 = .ok (.iload_n 2, 1) := by decide +kernel
theorem dX7_readsOrder_104 : decode cX7_readsOrder 104 = .ok (.bipush 118, 2) := by decide +kernel
theorem dX7_readsOrder_106 : decode cX7_readsOrder 106 = .ok (.if_icmp .ne 9, 3) := by decide +kernel
theorem dX7_readsOrder_109 : decode cX7_readsOrder 109 = .ok (.sipush (-1001), 3) := by decide +kernel
theorem dX7_readsOrder_112 : decode cX7_readsOrder 112 = .ok (.goto 9, 3) := by decide +kernel
theorem dX7_readsOrder_115 : decode cX7_readsOrder 115 = .ok (.aload_n 0, 1) := by decide +kernel
theorem dX7_readsOrder_116 : decode cX7_readsOrder 116 = .ok (.iconst 0, 1) := by decide +kernel
theorem dX7_readsOrder_117 : decode cX7_readsOrder 117 = .ok (.iconst 5, 1) := by decide +kernel
theorem dX7_readsOrder_118 : decode cX7_readsOrder 118 = .ok (.invokevirtual 74, 3) := by decide +kernel
theorem dX7_readsOrder_121 : decode cX7_readsOrder 121 = .ok (.iastore, 1) := by decide +kernel
theorem dX7_readsOrder_122 : decode cX7_readsOrder 122 = .ok (.aload_n 0, 1) := by decide +kernel
theorem dX7_readsOrder_123 : decode cX7_readsOrder 123 = .ok (.getfield 22, 3) := by decide +kernel
theorem dX7_readsOrder_126 : decode cX7_readsOrder 126 = .ok (.iload_n 1, 1) := by decide +kernel
theorem dX7_readsOrder_127 : decode cX7_readsOrder 127 = .ok (.iconst 3, 1) := by decide +kernel
theorem dX7_readsOrder_128 : decode cX7_readsOrder 128 = .ok (.iadd, 1) := by decide +kernel
theorem dX7_readsOrder_129 : decode cX7_readsOrder 129 = .ok (.iload_n 2, 1) := by decide +kernel
theorem dX7_readsOrder_130 : decode cX7_readsOrder 130 = .ok (.bipush 118, 2) := by decide +kernel
theorem dX7_readsOrder_132 : decode cX7_readsOrder 132 = .ok (.if_icmp .ne 9, 3) := by decide +kernel
theorem dX7_readsOrder_135 : decode cX7_readsOrder 135 = .ok (.sipush (-1001), 3) := by decide +kernel
theorem dX7_readsOrder_138 : decode cX7_readsOrder 138 = .ok (.goto 7, 3) := by decide +kernel
theorem dX7_readsOrder_141 : decode cX7_readsOrder 141 = .ok (.aload_n 0, 1) := by decide +kernel
theorem dX7_readsOrder_142 : decode cX7_readsOrder 142 = .ok (.invokevirtual 78, 3) := by decide +kernel
theorem dX7_readsOrder_145 : decode cX7_readsOrder 145 = .ok (.iastore, 1) := by decide +kernel
theorem dX7_readsOrder_146 : decode cX7_readsOrder 146 = .ok (.aload_n 0, 1) := by decide +kernel
theorem dX7_readsOrder_147 : decode cX7_readsOrder 147 = .ok (.getfield 22, 3) := by decide +kernel
theorem dX7_readsOrder_150 : decode cX7_readsOrder 150 = .ok (.iload_n 1, 1) := by decide +kernel
theorem dX7_readsOrder_151 : decode cX7_readsOrder 151 = .ok (.iconst 4, 1) := by decide +kernel
theorem dX7_readsOrder_152 : decode cX7_readsOrder 152 = .ok (.iadd, 1) := by decide +kernel
theorem dX7_readsOrder_153 : decode cX7_readsOrder 153 = .ok (.iload_n 2, 1) := by decide +kernel
theorem dX7_readsOrder_154 : decode cX7_readsOrder 154 = .ok (.bipush 111, 2) := by decide +kernel
theorem dX7_readsOrder_156 : decode cX7_readsOrder 156 = .ok (.if_icmp .ne 12, 3) := by decide +kernel
theorem dX7_readsOrder_159 : decode cX7_readsOrder 159 = .ok (.aload_n 0, 1) := by decide +kernel
theorem dX7_readsOrder_160 : decode cX7_readsOrder 160 = .ok (.iconst 1, 1) := by decide +kernel
theorem dX7_readsOrder_161 : decode cX7_readsOrder 161 = .ok (.iconst 3, 1) := by decide +kernel
theorem dX7_readsOrder_162 : decode cX7_readsOrder 162 = .ok (.invokevirtual 74, 3) := by decide +kernel
theorem dX7_readsOrder_165 : decode cX7_readsOrder 165 = .ok (.goto 21, 3) := by decide +kernel
theorem dX7_readsOrder_168 : decode cX7_readsOrder 168 = .ok (.iload_n 2, 1) := by decide +kernel
theorem dX7_readsOrder_169 : decode cX7_readsOrder 169 = .ok (.bipush 118, 2) := by decide +kernel
theorem dX7_readsOrder_171 : decode cX7_readsOrder 171 = .ok (.if_icmp .ne 12, 3) := by decide +kernel
theorem dX7_readsOrder_174 : decode cX7_readsOrder 174 = .ok (.aload_n 0, 1) := by decide +kernel
theorem dX7_readsOrder_175 : decode cX7_readsOrder 175 = .ok (.iconst 0, 1) := by decide +kernel
theorem dX7_readsOrder_176 : decode cX7_readsOrder 176 = .ok (.iconst 3, 1) := by decide +kernel
theorem dX7_readsOrder_177 : decode cX7_readsOrder 177 = .ok (.invokevirtual 74, 3) := by decide +kernel
theorem dX7_readsOrder_180 : decode cX7_readsOrder 180 = .ok (.goto 6, 3) := by decide +kernel
theorem dX7_readsOrder_183 : decode cX7_readsOrder 183 = .ok (.sipush (-1001), 3) := by decide +kernel
theorem dX7_readsOrder_186 : decode cX7_readsOrder 186 = .ok (.iastore, 1) := by decide +kernel
theorem dX7_readsOrder_187 : decode cX7_readsOrder 187 = .ok (.aload_n 0, 1) := by decide +kernel
theorem dX7_readsOrder_188 : decode cX7_readsOrder 188 = .ok (.aload_n 0, 1) := by decide +kernel
theorem dX7_readsOrder_189 : decode cX7_readsOrder 189 = .ok (.invokevirtual 47, 3) := by decide +kernel
theorem dX7_readsOrder_192 : decode cX7_readsOrder 192 = .ok (.bipush 59, 2) := by decide +kernel
theorem dX7_readsOrder_194 : decode cX7_readsOrder 194 = .ok (.if_icmp .ne 7, 3) := by decide +kernel
theorem dX7_readsOrder_197 : decode cX7_readsOrder 197 = .ok (.iconst 1, 1) := by decide +kernel
theorem dX7_readsOrder_198 : decode cX7_readsOrder 198 = .ok (.goto 4, 3) := by decide +kernel
theorem dX7_readsOrder_201 : decode cX7_readsOrder 201 = .ok (.iconst 0, 1) := by decide +kernel
theorem dX7_readsOrder_202 : decode cX7_readsOrder 202 = .ok (.invokevirtual 60, 3) := by decide +kernel
theorem dX7_readsOrder_205 : decode cX7_readsOrder 205 = .ok (.aload_n 0, 1) := by decide +kernel
theorem dX7_readsOrder_206 : decode cX7_readsOrder 206 = .ok (.dup, 1) := by decide +kernel
theorem dX7_readsOrder_207 : decode cX7_readsOrder 207 = .ok (.getfield 68, 3) := by decide +kernel
theorem dX7_readsOrder_210 : decode cX7_readsOrder 210 = .ok (.iconst 1, 1) := by decide +kernel
theorem dX7_readsOrder_211 : decode cX7_readsOrder 211 = .ok (.iadd, 1) := by decide +kernel
theorem dX7_readsOrder_212 : decode cX7_readsOrder 212 = .ok (.putfield 68, 3) := by decide +kernel
theorem dX7_readsOrder_215 : decode cX7_readsOrder 215 = .ok (.return_, 1) := by decide +kernel
theorem dX7_reads_0 : decode cX7_reads 0 = .ok (.aload_n 0, 1) := by decide +kernel
theorem dX7_reads_1 : decode cX7_reads 1 = .ok (.iconst 0, 1) := by decide +kernel
theorem dX7_reads_2 : decode cX7_reads 2 = .ok (.putfield 44, 3) := by decide +kernel
theorem dX7_reads_5 : decode cX7_reads 5 = .ok (.aload_n 0, 1) := by decide +kernel
theorem dX7_reads_6 : decode cX7_reads 6 = .ok (.sipush (-1001), 3) := by decide +kernel
theorem dX7_reads_9 : decode cX7_reads 9 = .ok (.putfield 51, 3) := by decide +kernel
theorem dX7_reads_12 : decode cX7_reads 12 = .ok (.aload_n 0, 1) := by decide +kernel
theorem dX7_reads_13 : decode cX7_reads 13 = .ok (.iconst 0, 1) := by decide +kernel
theorem dX7_reads_14 : decode cX7_reads 14 = .ok (.putfield 68, 3) := by decide +kernel
theorem dX7_reads_17 : decode cX7_reads 17 = .ok (.aload_n 0, 1) := by decide +kernel
theorem dX7_reads_18 : decode cX7_reads 18 = .ok (.invokevirtual 54, 3) := by decide +kernel
theorem dX7_reads_21 : decode cX7_reads 21 = .ok (.aload_n 0, 1) := by decide +kernel
theorem dX7_reads_22 : decode cX7_reads 22 = .ok (.getfield 51, 3) := by decide +kernel
theorem dX7_reads_25 : decode cX7_reads 25 = .ok (.sipush (-1001), 3) := by decide +kernel
theorem dX7_reads_28 : decode cX7_reads 28 = .ok (.if_icmp .ne 21, 3) := by decide +kernel
theorem dX7_reads_31 : decode cX7_reads 31 = .ok (.aload_n 0, 1) := by decide +kernel
theorem dX7_reads_32 : decode cX7_reads 32 = .ok (.getfield 44, 3) := by decide +kernel
theorem dX7_reads_35 : decode cX7_reads 35 = .ok (.aload_n 0, 1) := by decide +kernel
theorem dX7_reads_36 : decode cX7_reads 36 = .ok (.getfield 41, 3) := by decide +kernel
theorem dX7_reads_39 : decode cX7_reads 39 = .ok (.if_icmp .ge 10, 3) := by decide +kernel
theorem dX7_reads_42 : decode cX7_reads 42 = .ok (.aload_n 0, 1) := by decide +kernel
theorem dX7_reads_43 : decode cX7_reads 43 = .ok (.invokevirtual 81, 3) := by decide +kernel
theorem dX7_reads_46 : decode cX7_reads 46 = .ok (.goto (-25), 3) := by decide +kernel
theorem dX7_reads_49 : decode cX7_reads 49 = .ok (.return_, 1) := by decide +kernel
theorem dX7_fault_0 : decode cX7_fault 0 = .ok (.aload_n 0, 1) := by decide +kernel
theorem dX7_fault_1 : decode cX7_fault 1 = .ok (.invokevirtual 84, 3) := by decide +kernel
theorem dX7_fault_4 : decode cX7_fault 4 = .ok (.aload_n 0, 1) := by decide +kernel
theorem dX7_fault_5 : decode cX7_fault 5 = .ok (.getfield 51, 3) := by decide +kernel
theorem dX7_fault_8 : decode cX7_fault 8 = .ok (.ireturn, 1) := by decide +kernel
theorem dX7_isDue_0 : decode cX7_isDue 0 = .ok (.sipush 168, 3) := by decide +kernel
theorem dX7_isDue_3 : decode cX7_isDue 3 = .ok (.iconst 5, 1) := by decide +kernel
theorem dX7_isDue_4 : decode cX7_isDue 4 = .ok (.iload_n 1, 1) := by decide +kernel
theorem dX7_isDue_5 : decode cX7_isDue 5 = .ok (.imul, 1) := by decide +kernel
theorem dX7_isDue_6 : decode cX7_isDue 6 = .ok (.iadd, 1) := by decide +kernel
theorem dX7_isDue_7 : decode cX7_isDue 7 = .ok (.istore_n 2, 1) := by decide +kernel
theorem dX7_isDue_8 : decode cX7_isDue 8 = .ok (.aload_n 0, 1) := by decide +kernel
theorem dX7_isDue_9 : decode cX7_isDue 9 = .ok (.getfield 7, 3) := by decide +kernel
theorem dX7_isDue_12 : decode cX7_isDue 12 = .ok (.iload_n 2, 1) := by decide +kernel
theorem dX7_isDue_13 : decode cX7_isDue 13 = .ok (.iconst 1, 1) := by decide +kernel
theorem dX7_isDue_14 : decode cX7_isDue 14 = .ok (.iadd, 1) := by decide +kernel
theorem dX7_isDue_15 : decode cX7_isDue 15 = .ok (.iaload, 1) := by decide +kernel
theorem dX7_isDue_16 : decode cX7_isDue 16 = .ok (.iconst 2, 1) := by decide +kernel
theorem dX7_isDue_17 : decode cX7_isDue 17 = .ok (.if_icmp .ne 26, 3) := by decide +kernel
theorem dX7_isDue_20 : decode cX7_isDue 20 = .ok (.aload_n 0, 1) := by decide +kernel
theorem dX7_isDue_21 : decode cX7_isDue 21 = .ok (.getfield 7, 3) := by decide +kernel
theorem dX7_isDue_24 : decode cX7_isDue 24 = .ok (.sipush 219, 3) := by decide +kernel
theorem dX7_isDue_27 : decode cX7_isDue 27 = .ok (.iaload, 1) := by decide +kernel
theorem dX7_isDue_28 : decode cX7_isDue 28 = .ok (.aload_n 0, 1) := by decide +kernel
theorem dX7_isDue_29 : decode cX7_isDue 29 = .ok (.getfield 7, 3) := by decide +kernel
theorem dX7_isDue_32 : decode cX7_isDue 32 = .ok (.iload_n 2, 1) := by decide +kernel
theorem dX7_isDue_33 : decode cX7_isDue 33 = .ok (.iaload, 1) := by decide +kernel
theorem dX7_isDue_34 : decode cX7_isDue 34 = .ok (.if_icmp .lt 7, 3) := by decide +kernel
theorem dX7_isDue_37 : decode cX7_isDue 37 = .ok (.iconst 1, 1) := by decide +kernel
theorem dX7_isDue_38 : decode cX7_isDue 38 = .ok (.goto 4, 3) := by decide +kernel
theorem dX7_isDue_41 : decode cX7_isDue 41 = .ok (.iconst 0, 1) := by decide +kernel
theorem dX7_isDue_42 : decode cX7_isDue 42 = .ok (.ireturn, 1) := by decide +kernel
theorem dX7_isDue_43 : decode cX7_isDue 43 = .ok (.aload_n 0, 1) := by decide +kernel
theorem dX7_isDue_44 : decode cX7_isDue 44 = .ok (.aload_n 0, 1) := by decide +kernel
theorem dX7_isDue_45 : decode cX7_isDue 45 = .ok (.getfield 7, 3) := by decide +kernel
theorem dX7_isDue_48 : decode cX7_isDue 48 = .ok (.iload_n 2, 1) := by decide +kernel
theorem dX7_isDue_49 : decode cX7_isDue 49 = .ok (.iconst 2, 1) := by decide +kernel
theorem dX7_isDue_50 : decode cX7_isDue 50 = .ok (.iadd, 1) := by decide +kernel
theorem dX7_isDue_51 : decode cX7_isDue 51 = .ok (.iaload, 1) := by decide +kernel
theorem dX7_isDue_52 : decode cX7_isDue 52 = .ok (.invokevirtual 86, 3) := by decide +kernel
theorem dX7_isDue_55 : decode cX7_isDue 55 = .ok (.ifCond .eq 35, 3) := by decide +kernel
theorem dX7_isDue_58 : decode cX7_isDue 58 = .ok (.aload_n 0, 1) := by decide +kernel
theorem dX7_isDue_59 : decode cX7_isDue 59 = .ok (.getfield 7, 3) := by decide +kernel
theorem dX7_isDue_62 : decode cX7_isDue 62 = .ok (.sipush 219, 3) := by decide +kernel
theorem dX7_isDue_65 : decode cX7_isDue 65 = .ok (.iaload, 1) := by decide +kernel
theorem dX7_isDue_66 : decode cX7_isDue 66 = .ok (.iconst 4, 1) := by decide +kernel
theorem dX7_isDue_67 : decode cX7_isDue 67 = .ok (.aload_n 0, 1) := by decide +kernel
theorem dX7_isDue_68 : decode cX7_isDue 68 = .ok (.getfield 7, 3) := by decide +kernel
theorem dX7_isDue_71 : decode cX7_isDue 71 = .ok (.iload_n 2, 1) := by decide +kernel
theorem dX7_isDue_72 : decode cX7_isDue 72 = .ok (.iconst 2, 1) := by decide +kernel
theorem dX7_isDue_73 : decode cX7_isDue 73 = .ok (.iadd, 1) := by decide +kernel
theorem dX7_isDue_74 : decode cX7_isDue 74 = .ok (.iaload, 1) := by decide +kernel
theorem dX7_isDue_75 : decode cX7_isDue 75 = .ok (.imul, 1) := by decide +kernel
theorem dX7_isDue_76 : decode cX7_isDue 76 = .ok (.isub, 1) := by decide +kernel
theorem dX7_isDue_77 : decode cX7_isDue 77 = .ok (.aload_n 0, 1) := by decide +kernel
theorem dX7_isDue_78 : decode cX7_isDue 78 = .ok (.getfield 7, 3) := by decide +kernel
theorem dX7_isDue_81 : decode cX7_isDue 81 = .ok (.iload_n 2, 1) := by decide +kernel
theorem dX7_isDue_82 : decode cX7_isDue 82 = .ok (.iaload, 1) := by decide +kernel
theorem dX7_isDue_83 : decode cX7_isDue 83 = .ok (.if_icmp .lt 7, 3) := by decide +kernel
theorem dX7_isDue_86 : decode cX7_isDue 86 = .ok (.iconst 1, 1) := by decide +kernel
theorem dX7_isDue_87 : decode cX7_isDue 87 = .ok (.goto 4, 3) := by decide +kernel
theorem dX7_isDue_90 : decode cX7_isDue 90 = .ok (.iconst 0, 1) := by decide +kernel
theorem dX7_isDue_91 : decode cX7_isDue 91 = .ok (.ireturn, 1) := by decide +kernel
theorem dX7_moves_0 : decode cX7_moves 0 = .ok (.iload_n 3, 1) := by decide +kernel
theorem dX7_moves_1 : decode cX7_moves 1 = .ok (.ifCond .le 26, 3) := by decide +kernel
theorem dX7_moves_4 : decode cX7_moves 4 = .ok (.aload_n 0, 1) := by decide +kernel
theorem dX7_moves_5 : decode cX7_moves 5 = .ok (.iload_n 1, 1) := by decide +kernel
theorem dX7_moves_6 : decode cX7_moves 6 = .ok (.iconst 2, 1) := by decide +kernel
theorem dX7_moves_7 : decode cX7_moves 7 = .ok (.iload_n 2, 1) := by decide +kernel
theorem dX7_moves_8 : decode cX7_moves 8 = .ok (.iadd, 1) := by decide +kernel
theorem dX7_moves_9 : decode cX7_moves 9 = .ok (.iload_n 3, 1) := by decide +kernel
theorem dX7_moves_10 : decode cX7_moves 10 = .ok (.invokevirtual 33, 3) := by decide +kernel
theorem dX7_moves_13 : decode cX7_moves 13 = .ok (.aload_n 0, 1) := by decide +kernel
theorem dX7_moves_14 : decode cX7_moves 14 = .ok (.iload_n 1, 1) := by decide +kernel
theorem dX7_moves_15 : decode cX7_moves 15 = .ok (.iconst 5, 1) := by decide +kernel
theorem dX7_moves_16 : decode cX7_moves 16 = .ok (.iload_n 2, 1) := by decide +kernel
theorem dX7_moves_17 : decode cX7_moves 17 = .ok (.iadd, 1) := by decide +kernel
theorem dX7_moves_18 : decode cX7_moves 18 = .ok (.sipush (-1001), 3) := by decide +kernel
theorem dX7_moves_21 : decode cX7_moves 21 = .ok (.invokevirtual 33, 3) := by decide +kernel
theorem dX7_moves_24 : decode cX7_moves 24 = .ok (.goto 30, 3) := by decide +kernel
theorem dX7_moves_27 : decode cX7_moves 27 = .ok (.aload_n 0, 1) := by decide +kernel
theorem dX7_moves_28 : decode cX7_moves 28 = .ok (.iload_n 1, 1) := by decide +kernel
theorem dX7_moves_29 : decode cX7_moves 29 = .ok (.iconst 2, 1) := by decide +kernel
theorem dX7_moves_30 : decode cX7_moves 30 = .ok (.iload_n 2, 1) := by decide +kernel
theorem dX7_moves_31 : decode cX7_moves 31 = .ok (.iadd, 1) := by decide +kernel
theorem dX7_moves_32 : decode cX7_moves 32 = .ok (.invokevirtual 90, 3) := by decide +kernel
theorem dX7_moves_35 : decode cX7_moves 35 = .ok (.ifCond .le 19, 3) := by decide +kernel
theorem dX7_moves_38 : decode cX7_moves 38 = .ok (.aload_n 0, 1) := by decide +kernel
theorem dX7_moves_39 : decode cX7_moves 39 = .ok (.iload_n 1, 1) := by decide +kernel
theorem dX7_moves_40 : decode cX7_moves 40 = .ok (.iconst 5, 1) := by decide +kernel
theorem dX7_moves_41 : decode cX7_moves 41 = .ok (.iload_n 2, 1) := by decide +kernel
theorem dX7_moves_42 : decode cX7_moves 42 = .ok (.iadd, 1) := by decide +kernel
theorem dX7_moves_43 : decode cX7_moves 43 = .ok (.aload_n 0, 1) := by decide +kernel
theorem dX7_moves_44 : decode cX7_moves 44 = .ok (.getfield 7, 3) := by decide +kernel
theorem dX7_moves_47 : decode cX7_moves 47 = .ok (.sipush 230, 3) := by decide +kernel
theorem dX7_moves_50 : decode cX7_moves 50 = .ok (.iaload, 1) := by decide +kernel
theorem dX7_moves_51 : decode cX7_moves 51 = .ok (.invokevirtual 33, 3) := by decide +kernel
theorem dX7_moves_54 : decode cX7_moves 54 = .ok (.return_, 1) := by decide +kernel
theorem dX7_dropsOrder_0 : decode cX7_dropsOrder 0 = .ok (.aload_n 0, 1) := by decide +kernel
theorem dX7_dropsOrder_1 : decode cX7_dropsOrder 1 = .ok (.getfield 7, 3) := by decide +kernel
theorem dX7_dropsOrder_4 : decode cX7_dropsOrder 4 = .ok (.sipush 223, 3) := by decide +kernel
theorem dX7_dropsOrder_7 : decode cX7_dropsOrder 7 = .ok (.dup2, 1) := by decide +kernel
theorem dX7_dropsOrder_8 : decode cX7_dropsOrder 8 = .ok (.iaload, 1) := by decide +kernel
theorem dX7_dropsOrder_9 : decode cX7_dropsOrder 9 = .ok (.iconst 1, 1) := by decide +kernel
theorem dX7_dropsOrder_10 : decode cX7_dropsOrder 10 = .ok (.isub, 1) := by decide +kernel
theorem dX7_dropsOrder_11 : decode cX7_dropsOrder 11 = .ok (.iastore, 1) := by decide +kernel
theorem dX7_dropsOrder_12 : decode cX7_dropsOrder 12 = .ok (.sipush 168, 3) := by decide +kernel
theorem dX7_dropsOrder_15 : decode cX7_dropsOrder 15 = .ok (.iconst 5, 1) := by decide +kernel
theorem dX7_dropsOrder_16 : decode cX7_dropsOrder 16 = .ok (.iload_n 1, 1) := by decide +kernel
theorem dX7_dropsOrder_17 : decode cX7_dropsOrder 17 = .ok (.imul, 1) := by decide +kernel
theorem dX7_dropsOrder_18 : decode cX7_dropsOrder 18 = .ok (.iadd, 1) := by decide +kernel
theorem dX7_dropsOrder_19 : decode cX7_dropsOrder 19 = .ok (.istore_n 2, 1) := by decide +kernel
theorem dX7_dropsOrder_20 : decode cX7_dropsOrder 20 = .ok (.iload_n 2, 1) := by decide +kernel
theorem dX7_dropsOrder_21 : decode cX7_dropsOrder 21 = .ok (.sipush 168, 3) := by decide +kernel
theorem dX7_dropsOrder_24 : decode cX7_dropsOrder 24 = .ok (.iconst 5, 1) := by decide +kernel
theorem dX7_dropsOrder_25 : decode cX7_dropsOrder 25 = .ok (.aload_n 0, 1) := by decide +kernel
theorem dX7_dropsOrder_26 : decode cX7_dropsOrder 26 = .ok (.getfield 7, 3) := by decide +kernel
theorem dX7_dropsOrder_29 : decode cX7_dropsOrder 29 = .ok (.sipush 223, 3) := by decide +kernel
theorem dX7_dropsOrder_32 : decode cX7_dropsOrder 32 = .ok (.iaload, 1) := by decide +kernel
theorem dX7_dropsOrder_33 : decode cX7_dropsOrder 33 = .ok (.imul, 1) := by decide +kernel
theorem dX7_dropsOrder_34 : decode cX7_dropsOrder 34 = .ok (.iadd, 1) := by decide +kernel
theorem dX7_dropsOrder_35 : decode cX7_dropsOrder 35 = .ok (.if_icmp .ge 23, 3) := by decide +kernel
theorem dX7_dropsOrder_38 : decode cX7_dropsOrder 38 = .ok (.aload_n 0, 1) := by decide +kernel
theorem dX7_dropsOrder_39 : decode cX7_dropsOrder 39 = .ok (.getfield 7, 3) := by decide +kernel
theorem dX7_dropsOrder_42 : decode cX7_dropsOrder 42 = .ok (.iload_n 2, 1) := by decide +kernel
theorem dX7_dropsOrder_43 : decode cX7_dropsOrder 43 = .ok (.aload_n 0, 1) := by decide +kernel
theorem dX7_dropsOrder_44 : decode cX7_dropsOrder 44 = .ok (.getfield 7, 3) := by decide +kernel
theorem dX7_dropsOrder_47 : decode cX7_dropsOrder 47 = .ok (.iload_n 2, 1) := by decide +kernel
theorem dX7_dropsOrder_48 : decode cX7_dropsOrder 48 = .ok (.iconst 5, 1) := by decide +kernel
theorem dX7_dropsOrder_49 : decode cX7_dropsOrder 49 = .ok (.iadd, 1) := by decide +kernel
theorem dX7_dropsOrder_50 : decode cX7_dropsOrder 50 = .ok (.iaload, 1) := by decide +kernel
theorem dX7_dropsOrder_51 : decode cX7_dropsOrder 51 = .ok (.iastore, 1) := by decide +kernel
theorem dX7_dropsOrder_52 : decode cX7_dropsOrder 52 = .ok (.iinc 2 1, 3) := by decide +kernel
theorem dX7_dropsOrder_55 : decode cX7_dropsOrder 55 = .ok (.goto (-35), 3) := by decide +kernel
theorem dX7_dropsOrder_58 : decode cX7_dropsOrder 58 = .ok (.return_, 1) := by decide +kernel
theorem dX7_ordersDue_0 : decode cX7_ordersDue 0 = .ok (.iconst 0, 1) := by decide +kernel
theorem dX7_ordersDue_1 : decode cX7_ordersDue 1 = .ok (.istore_n 1, 1) := by decide +kernel
theorem dX7_ordersDue_2 : decode cX7_ordersDue 2 = .ok (.iload_n 1, 1) := by decide +kernel
theorem dX7_ordersDue_3 : decode cX7_ordersDue 3 = .ok (.aload_n 0, 1) := by decide +kernel
theorem dX7_ordersDue_4 : decode cX7_ordersDue 4 = .ok (.getfield 7, 3) := by decide +kernel
theorem dX7_ordersDue_7 : decode cX7_ordersDue 7 = .ok (.sipush 223, 3) := by decide +kernel
theorem dX7_ordersDue_10 : decode cX7_ordersDue 10 = .ok (.iaload, 1) := by decide +kernel
theorem dX7_ordersDue_11 : decode cX7_ordersDue 11 = .ok (.if_icmp .ge 107, 3) := by decide +kernel
theorem dX7_ordersDue_14 : decode cX7_ordersDue 14 = .ok (.sipush 168, 3) := by decide +kernel
theorem dX7_ordersDue_17 : decode cX7_ordersDue 17 = .ok (.iconst 5, 1) := by decide +kernel
theorem dX7_ordersDue_18 : decode cX7_ordersDue 18 = .ok (.iload_n 1, 1) := by decide +kernel
theorem dX7_ordersDue_19 : decode cX7_ordersDue 19 = .ok (.imul, 1) := by decide +kernel
theorem dX7_ordersDue_20 : decode cX7_ordersDue 20 = .ok (.iadd, 1) := by decide +kernel
theorem dX7_ordersDue_21 : decode cX7_ordersDue 21 = .ok (.istore_n 2, 1) := by decide +kernel
theorem dX7_ordersDue_22 : decode cX7_ordersDue 22 = .ok (.aload_n 0, 1) := by decide +kernel
theorem dX7_ordersDue_23 : decode cX7_ordersDue 23 = .ok (.iload_n 1, 1) := by decide +kernel
theorem dX7_ordersDue_24 : decode cX7_ordersDue 24 = .ok (.invokevirtual 93, 3) := by decide +kernel
theorem dX7_ordersDue_27 : decode cX7_ordersDue 27 = .ok (.ifCond .eq 85, 3) := by decide +kernel
theorem dX7_ordersDue_30 : decode cX7_ordersDue 30 = .ok (.aload_n 0, 1) := by decide +kernel
theorem dX7_ordersDue_31 : decode cX7_ordersDue 31 = .ok (.getfield 7, 3) := by decide +kernel
theorem dX7_ordersDue_34 : decode cX7_ordersDue 34 = .ok (.iload_n 2, 1) := by decide +kernel
theorem dX7_ordersDue_35 : decode cX7_ordersDue 35 = .ok (.iconst 1, 1) := by decide +kernel
theorem dX7_ordersDue_36 : decode cX7_ordersDue 36 = .ok (.iadd, 1) := by decide +kernel
theorem dX7_ordersDue_37 : decode cX7_ordersDue 37 = .ok (.iaload, 1) := by decide +kernel
theorem dX7_ordersDue_38 : decode cX7_ordersDue 38 = .ok (.iconst 2, 1) := by decide +kernel
theorem dX7_ordersDue_39 : decode cX7_ordersDue 39 = .ok (.if_icmp .ne 22, 3) := by decide +kernel
theorem dX7_ordersDue_42 : decode cX7_ordersDue 42 = .ok (.aload_n 0, 1) := by decide +kernel
theorem dX7_ordersDue_43 : decode cX7_ordersDue 43 = .ok (.getfield 7, 3) := by decide +kernel
theorem dX7_ordersDue_46 : decode cX7_ordersDue 46 = .ok (.sipush 221, 3) := by decide +kernel
theorem dX7_ordersDue_49 : decode cX7_ordersDue 49 = .ok (.aload_n 0, 1) := by decide +kernel
theorem dX7_ordersDue_50 : decode cX7_ordersDue 50 = .ok (.getfield 7, 3) := by decide +kernel
theorem dX7_ordersDue_53 : decode cX7_ordersDue 53 = .ok (.iload_n 2, 1) := by decide +kernel
theorem dX7_ordersDue_54 : decode cX7_ordersDue 54 = .ok (.iconst 4, 1) := by decide +kernel
theorem dX7_ordersDue_55 : decode cX7_ordersDue 55 = .ok (.iadd, 1) := by decide +kernel
theorem dX7_ordersDue_56 : decode cX7_ordersDue 56 = .ok (.iaload, 1) := by decide +kernel
theorem dX7_ordersDue_57 : decode cX7_ordersDue 57 = .ok (.iastore, 1) := by decide +kernel
theorem dX7_ordersDue_58 : decode cX7_ordersDue 58 = .ok (.goto 46, 3) := by decide +kernel
theorem dX7_ordersDue_61 : decode cX7_ordersDue 61 = .ok (.aload_n 0, 1) := by decide +kernel
theorem dX7_ordersDue_62 : decode cX7_ordersDue 62 = .ok (.aload_n 0, 1) := by decide +kernel
theorem dX7_ordersDue_63 : decode cX7_ordersDue 63 = .ok (.getfield 7, 3) := by decide +kernel
theorem dX7_ordersDue_66 : decode cX7_ordersDue 66 = .ok (.iload_n 2, 1) := by decide +kernel
theorem dX7_ordersDue_67 : decode cX7_ordersDue 67 = .ok (.iconst 2, 1) := by decide +kernel
theorem dX7_ordersDue_68 : decode cX7_ordersDue 68 = .ok (.iadd, 1) := by decide +kernel
theorem dX7_ordersDue_69 : decode cX7_ordersDue 69 = .ok (.iaload, 1) := by decide +kernel
theorem dX7_ordersDue_70 : decode cX7_ordersDue 70 = .ok (.aload_n 0, 1) := by decide +kernel
theorem dX7_ordersDue_71 : decode cX7_ordersDue 71 = .ok (.getfield 7, 3) := by decide +kernel
theorem dX7_ordersDue_74 : decode cX7_ordersDue 74 = .ok (.iload_n 2, 1) := by decide +kernel
theorem dX7_ordersDue_75 : decode cX7_ordersDue 75 = .ok (.iconst 3, 1) := by decide +kernel
theorem dX7_ordersDue_76 : decode cX7_ordersDue 76 = .ok (.iadd, 1) := by decide +kernel
theorem dX7_ordersDue_77 : decode cX7_ordersDue 77 = .ok (.iaload, 1) := by decide +kernel
theorem dX7_ordersDue_78 : decode cX7_ordersDue 78 = .ok (.aload_n 0, 1) := by decide +kernel
theorem dX7_ordersDue_79 : decode cX7_ordersDue 79 = .ok (.getfield 7, 3) := by decide +kernel
theorem dX7_ordersDue_82 : decode cX7_ordersDue 82 = .ok (.iload_n 2, 1) := by decide +kernel
theorem dX7_ordersDue_83 : decode cX7_ordersDue 83 = .ok (.iconst 1, 1) := by decide +kernel
theorem dX7_ordersDue_84 : decode cX7_ordersDue 84 = .ok (.iadd, 1) := by decide +kernel
theorem dX7_ordersDue_85 : decode cX7_ordersDue 85 = .ok (.iaload, 1) := by decide +kernel
theorem dX7_ordersDue_86 : decode cX7_ordersDue 86 = .ok (.ifCond .ne 14, 3) := by decide +kernel
theorem dX7_ordersDue_89 : decode cX7_ordersDue 89 = .ok (.aload_n 0, 1) := by decide +kernel
theorem dX7_ordersDue_90 : decode cX7_ordersDue 90 = .ok (.getfield 7, 3) := by decide +kernel
theorem dX7_ordersDue_93 : decode cX7_ordersDue 93 = .ok (.iload_n 2, 1) := by decide +kernel
theorem dX7_ordersDue_94 : decode cX7_ordersDue 94 = .ok (.iconst 4, 1) := by decide +kernel
theorem dX7_ordersDue_95 : decode cX7_ordersDue 95 = .ok (.iadd, 1) := by decide +kernel
theorem dX7_ordersDue_96 : decode cX7_ordersDue 96 = .ok (.iaload, 1) := by decide +kernel
theorem dX7_ordersDue_97 : decode cX7_ordersDue 97 = .ok (.goto 4, 3) := by decide +kernel
theorem dX7_ordersDue_100 : decode cX7_ordersDue 100 = .ok (.iconst 0, 1) := by decide +kernel
theorem dX7_ordersDue_101 : decode cX7_ordersDue 101 = .ok (.invokevirtual 96, 3) := by decide +kernel
theorem dX7_ordersDue_104 : decode cX7_ordersDue 104 = .ok (.aload_n 0, 1) := by decide +kernel
theorem dX7_ordersDue_105 : decode cX7_ordersDue 105 = .ok (.iload_n 1, 1) := by decide +kernel
theorem dX7_ordersDue_106 : decode cX7_ordersDue 106 = .ok (.invokevirtual 99, 3) := by decide +kernel
theorem dX7_ordersDue_109 : decode cX7_ordersDue 109 = .ok (.goto 6, 3) := by decide +kernel
theorem dX7_ordersDue_112 : decode cX7_ordersDue 112 = .ok (.iinc 1 1, 3) := by decide +kernel
theorem dX7_ordersDue_115 : decode cX7_ordersDue 115 = .ok (.goto (-113), 3) := by decide +kernel
theorem dX7_ordersDue_118 : decode cX7_ordersDue 118 = .ok (.return_, 1) := by decide +kernel
theorem dX7_falls_0 : decode cX7_falls 0 = .ok (.aload_n 0, 1) := by decide +kernel
theorem dX7_falls_1 : decode cX7_falls 1 = .ok (.iload_n 1, 1) := by decide +kernel
theorem dX7_falls_2 : decode cX7_falls 2 = .ok (.iconst 2, 1) := by decide +kernel
theorem dX7_falls_3 : decode cX7_falls 3 = .ok (.iload_n 2, 1) := by decide +kernel
theorem dX7_falls_4 : decode cX7_falls 4 = .ok (.iadd, 1) := by decide +kernel
theorem dX7_falls_5 : decode cX7_falls 5 = .ok (.invokevirtual 90, 3) := by decide +kernel
theorem dX7_falls_8 : decode cX7_falls 8 = .ok (.aload_n 0, 1) := by decide +kernel
theorem dX7_falls_9 : decode cX7_falls 9 = .ok (.iload_n 1, 1) := by decide +kernel
theorem dX7_falls_10 : decode cX7_falls 10 = .ok (.iconst 0, 1) := by decide +kernel
theorem dX7_falls_11 : decode cX7_falls 11 = .ok (.invokevirtual 90, 3) := by decide +kernel
theorem dX7_falls_14 : decode cX7_falls 14 = .ok (.invokestatic 102, 3) := by decide +kernel
theorem dX7_falls_17 : decode cX7_falls 17 = .ok (.istore_n 3, 1) := by decide +kernel
theorem dX7_falls_18 : decode cX7_falls 18 = .ok (.aload_n 0, 1) := by decide +kernel
theorem dX7_falls_19 : decode cX7_falls 19 = .ok (.iload_n 1, 1) := by decide +kernel
theorem dX7_falls_20 : decode cX7_falls 20 = .ok (.iconst 0, 1) := by decide +kernel
theorem dX7_falls_21 : decode cX7_falls 21 = .ok (.aload_n 0, 1) := by decide +kernel
theorem dX7_falls_22 : decode cX7_falls 22 = .ok (.iload_n 1, 1) := by decide +kernel
theorem dX7_falls_23 : decode cX7_falls 23 = .ok (.iconst 0, 1) := by decide +kernel
theorem dX7_falls_24 : decode cX7_falls 24 = .ok (.invokevirtual 90, 3) := by decide +kernel
theorem dX7_falls_27 : decode cX7_falls 27 = .ok (.iload_n 3, 1) := by decide +kernel
theorem dX7_falls_28 : decode cX7_falls 28 = .ok (.isub, 1) := by decide +kernel
theorem dX7_falls_29 : decode cX7_falls 29 = .ok (.invokevirtual 33, 3) := by decide +kernel
theorem dX7_falls_32 : decode cX7_falls 32 = .ok (.aload_n 0, 1) := by decide +kernel
theorem dX7_falls_33 : decode cX7_falls 33 = .ok (.iload_n 1, 1) := by decide +kernel
theorem dX7_falls_34 : decode cX7_falls 34 = .ok (.iconst 1, 1) := by decide +kernel
theorem dX7_falls_35 : decode cX7_falls 35 = .ok (.aload_n 0, 1) := by decide +kernel
theorem dX7_falls_36 : decode cX7_falls 36 = .ok (.iload_n 1, 1) := by decide +kernel
theorem dX7_falls_37 : decode cX7_falls 37 = .ok (.iconst 1, 1) := by decide +kernel
theorem dX7_falls_38 : decode cX7_falls 38 = .ok (.invokevirtual 90, 3) := by decide +kernel
theorem dX7_falls_41 : decode cX7_falls 41 = .ok (.iload_n 3, 1) := by decide +kernel
theorem dX7_falls_42 : decode cX7_falls 42 = .ok (.iadd, 1) := by decide +kernel
theorem dX7_falls_43 : decode cX7_falls 43 = .ok (.invokevirtual 33, 3) := by decide +kernel
theorem dX7_falls_46 : decode cX7_falls 46 = .ok (.aload_n 0, 1) := by decide +kernel
theorem dX7_falls_47 : decode cX7_falls 47 = .ok (.getfield 7, 3) := by decide +kernel
theorem dX7_falls_50 : decode cX7_falls 50 = .ok (.sipush 219, 3) := by decide +kernel
theorem dX7_falls_53 : decode cX7_falls 53 = .ok (.iaload, 1) := by decide +kernel
theorem dX7_falls_54 : decode cX7_falls 54 = .ok (.iconst 4, 1) := by decide +kernel
theorem dX7_falls_55 : decode cX7_falls 55 = .ok (.iload_n 1, 1) := by decide +kernel
theorem dX7_falls_56 : decode cX7_falls 56 = .ok (.imul, 1) := by decide +kernel
theorem dX7_falls_57 : decode cX7_falls 57 = .ok (.isub, 1) := by decide +kernel
theorem dX7_falls_58 : decode cX7_falls 58 = .ok (.istore 4, 2) := by decide +kernel
theorem dX7_falls_60 : decode cX7_falls 60 = .ok (.iload 4, 2) := by decide +kernel
theorem dX7_falls_62 : decode cX7_falls 62 = .ok (.invokestatic 105, 3) := by decide +kernel
theorem dX7_falls_65 : decode cX7_falls 65 = .ok (.ifCond .eq 21, 3) := by decide +kernel
theorem dX7_falls_68 : decode cX7_falls 68 = .ok (.aload_n 0, 1) := by decide +kernel
theorem dX7_falls_69 : decode cX7_falls 69 = .ok (.getfield 7, 3) := by decide +kernel
theorem dX7_falls_72 : decode cX7_falls 72 = .ok (.iconst 3, 1) := by decide +kernel
theorem dX7_falls_73 : decode cX7_falls 73 = .ok (.iload 4, 2) := by decide +kernel
theorem dX7_falls_75 : decode cX7_falls 75 = .ok (.imul, 1) := by decide +kernel
theorem dX7_falls_76 : decode cX7_falls 76 = .ok (.iload_n 2, 1) := by decide +kernel
theorem dX7_falls_77 : decode cX7_falls 77 = .ok (.iadd, 1) := by decide +kernel
theorem dX7_falls_78 : decode cX7_falls 78 = .ok (.dup2, 1) := by decide +kernel
theorem dX7_falls_79 : decode cX7_falls 79 = .ok (.iaload, 1) := by decide +kernel
theorem dX7_falls_80 : decode cX7_falls 80 = .ok (.iload_n 3, 1) := by decide +kernel
theorem dX7_falls_81 : decode cX7_falls 81 = .ok (.iadd, 1) := by decide +kernel
theorem dX7_falls_82 : decode cX7_falls 82 = .ok (.iastore, 1) := by decide +kernel
theorem dX7_falls_83 : decode cX7_falls 83 = .ok (.goto 15, 3) := by decide +kernel
theorem dX7_falls_86 : decode cX7_falls 86 = .ok (.aload_n 0, 1) := by decide +kernel
theorem dX7_falls_87 : decode cX7_falls 87 = .ok (.getfield 7, 3) := by decide +kernel
theorem dX7_falls_90 : decode cX7_falls 90 = .ok (.sipush 226, 3) := by decide +kernel
theorem dX7_falls_93 : decode cX7_falls 93 = .ok (.dup2, 1) := by decide +kernel
theorem dX7_falls_94 : decode cX7_falls 94 = .ok (.iaload, 1) := by decide +kernel
theorem dX7_falls_95 : decode cX7_falls 95 = .ok (.iload_n 3, 1) := by decide +kernel
theorem dX7_falls_96 : decode cX7_falls 96 = .ok (.iadd, 1) := by decide +kernel
theorem dX7_falls_97 : decode cX7_falls 97 = .ok (.iastore, 1) := by decide +kernel
theorem dX7_falls_98 : decode cX7_falls 98 = .ok (.return_, 1) := by decide +kernel
theorem dX7_slides_0 : decode cX7_slides 0 = .ok (.aload_n 0, 1) := by decide +kernel
theorem dX7_slides_1 : decode cX7_slides 1 = .ok (.getfield 7, 3) := by decide +kernel
theorem dX7_slides_4 : decode cX7_slides 4 = .ok (.iconst 3, 1) := by decide +kernel
theorem dX7_slides_5 : decode cX7_slides 5 = .ok (.iload_n 1, 1) := by decide +kernel
theorem dX7_slides_6 : decode cX7_slides 6 = .ok (.imul, 1) := by decide +kernel
theorem dX7_slides_7 : decode cX7_slides 7 = .ok (.iload_n 2, 1) := by decide +kernel
theorem dX7_slides_8 : decode cX7_slides 8 = .ok (.iadd, 1) := by decide +kernel
theorem dX7_slides_9 : decode cX7_slides 9 = .ok (.iaload, 1) := by decide +kernel
theorem dX7_slides_10 : decode cX7_slides 10 = .ok (.aload_n 0, 1) := by decide +kernel
theorem dX7_slides_11 : decode cX7_slides 11 = .ok (.getfield 7, 3) := by decide +kernel
theorem dX7_slides_14 : decode cX7_slides 14 = .ok (.iconst 3, 1) := by decide +kernel
theorem dX7_slides_15 : decode cX7_slides 15 = .ok (.iload_n 1, 1) := by decide +kernel
theorem dX7_slides_16 : decode cX7_slides 16 = .ok (.imul, 1) := by decide +kernel
theorem dX7_slides_17 : decode cX7_slides 17 = .ok (.iconst 3, 1) := by decide +kernel
theorem dX7_slides_18 : decode cX7_slides 18 = .ok (.iadd, 1) := by decide +kernel
theorem dX7_slides_19 : decode cX7_slides 19 = .ok (.iload_n 2, 1) := by decide +kernel
theorem dX7_slides_20 : decode cX7_slides 20 = .ok (.iadd, 1) := by decide +kernel
theorem dX7_slides_21 : decode cX7_slides 21 = .ok (.iaload, 1) := by decide +kernel
theorem dX7_slides_22 : decode cX7_slides 22 = .ok (.isub, 1) := by decide +kernel
theorem dX7_slides_23 : decode cX7_slides 23 = .ok (.istore_n 3, 1) := by decide +kernel
theorem dX7_slides_24 : decode cX7_slides 24 = .ok (.iload_n 3, 1) := by decide +kernel
theorem dX7_slides_25 : decode cX7_slides 25 = .ok (.aload_n 0, 1) := by decide +kernel
theorem dX7_slides_26 : decode cX7_slides 26 = .ok (.getfield 7, 3) := by decide +kernel
theorem dX7_slides_29 : decode cX7_slides 29 = .ok (.sipush 228, 3) := by decide +kernel
theorem dX7_slides_32 : decode cX7_slides 32 = .ok (.iaload, 1) := by decide +kernel
theorem dX7_slides_33 : decode cX7_slides 33 = .ok (.if_icmp .le 7, 3) := by decide +kernel
theorem dX7_slides_36 : decode cX7_slides 36 = .ok (.iconst 1, 1) := by decide +kernel
theorem dX7_slides_37 : decode cX7_slides 37 = .ok (.goto 21, 3) := by decide +kernel
theorem dX7_slides_40 : decode cX7_slides 40 = .ok (.iload_n 3, 1) := by decide +kernel
theorem dX7_slides_41 : decode cX7_slides 41 = .ok (.ineg, 1) := by decide +kernel
theorem dX7_slides_42 : decode cX7_slides 42 = .ok (.aload_n 0, 1) := by decide +kernel
theorem dX7_slides_43 : decode cX7_slides 43 = .ok (.getfield 7, 3) := by decide +kernel
theorem dX7_slides_46 : decode cX7_slides 46 = .ok (.sipush 228, 3) := by decide +kernel
theorem dX7_slides_49 : decode cX7_slides 49 = .ok (.iaload, 1) := by decide +kernel
theorem dX7_slides_50 : decode cX7_slides 50 = .ok (.if_icmp .le 7, 3) := by decide +kernel
theorem dX7_slides_53 : decode cX7_slides 53 = .ok (.iconst (-1), 1) := by decide +kernel
theorem dX7_slides_54 : decode cX7_slides 54 = .ok (.goto 4, 3) := by decide +kernel
theorem dX7_slides_57 : decode cX7_slides 57 = .ok (.iconst 0, 1) := by decide +kernel
theorem dX7_slides_58 : decode cX7_slides 58 = .ok (.istore 4, 2) := by decide +kernel
theorem dX7_slides_60 : decode cX7_slides 60 = .ok (.aload_n 0, 1) := by decide +kernel
theorem dX7_slides_61 : decode cX7_slides 61 = .ok (.getfield 7, 3) := by decide +kernel
theorem dX7_slides_64 : decode cX7_slides 64 = .ok (.iconst 3, 1) := by decide +kernel
theorem dX7_slides_65 : decode cX7_slides 65 = .ok (.iload_n 1, 1) := by decide +kernel
theorem dX7_slides_66 : decode cX7_slides 66 = .ok (.imul, 1) := by decide +kernel
theorem dX7_slides_67 : decode cX7_slides 67 = .ok (.iload_n 2, 1) := by decide +kernel
theorem dX7_slides_68 : decode cX7_slides 68 = .ok (.iadd, 1) := by decide +kernel
theorem dX7_slides_69 : decode cX7_slides 69 = .ok (.dup2, 1) := by decide +kernel
theorem dX7_slides_70 : decode cX7_slides 70 = .ok (.iaload, 1) := by decide +kernel
theorem dX7_slides_71 : decode cX7_slides 71 = .ok (.iload 4, 2) := by decide +kernel
theorem dX7_slides_73 : decode cX7_slides 73 = .ok (.isub, 1) := by decide +kernel
theorem dX7_slides_74 : decode cX7_slides 74 = .ok (.iastore, 1) := by decide +kernel
theorem dX7_slides_75 : decode cX7_slides 75 = .ok (.aload_n 0, 1) := by decide +kernel
theorem dX7_slides_76 : decode cX7_slides 76 = .ok (.getfield 7, 3) := by decide +kernel
theorem dX7_slides_79 : decode cX7_slides 79 = .ok (.iconst 3, 1) := by decide +kernel
theorem dX7_slides_80 : decode cX7_slides 80 = .ok (.iload_n 1, 1) := by decide +kernel
theorem dX7_slides_81 : decode cX7_slides 81 = .ok (.imul, 1) := by decide +kernel
theorem dX7_slides_82 : decode cX7_slides 82 = .ok (.iconst 3, 1) := by decide +kernel
theorem dX7_slides_83 : decode cX7_slides 83 = .ok (.iadd, 1) := by decide +kernel
theorem dX7_slides_84 : decode cX7_slides 84 = .ok (.iload_n 2, 1) := by decide +kernel
theorem dX7_slides_85 : decode cX7_slides 85 = .ok (.iadd, 1) := by decide +kernel
theorem dX7_slides_86 : decode cX7_slides 86 = .ok (.dup2, 1) := by decide +kernel
theorem dX7_slides_87 : decode cX7_slides 87 = .ok (.iaload, 1) := by decide +kernel
theorem dX7_slides_88 : decode cX7_slides 88 = .ok (.iload 4, 2) := by decide +kernel
theorem dX7_slides_90 : decode cX7_slides 90 = .ok (.iadd, 1) := by decide +kernel
theorem dX7_slides_91 : decode cX7_slides 91 = .ok (.iastore, 1) := by decide +kernel
theorem dX7_slides_92 : decode cX7_slides 92 = .ok (.return_, 1) := by decide +kernel
theorem dX7_spills_0 : decode cX7_spills 0 = .ok (.aload_n 0, 1) := by decide +kernel
theorem dX7_spills_1 : decode cX7_spills 1 = .ok (.getfield 7, 3) := by decide +kernel
theorem dX7_spills_4 : decode cX7_spills 4 = .ok (.iconst 3, 1) := by decide +kernel
theorem dX7_spills_5 : decode cX7_spills 5 = .ok (.iload_n 1, 1) := by decide +kernel
theorem dX7_spills_6 : decode cX7_spills 6 = .ok (.imul, 1) := by decide +kernel
theorem dX7_spills_7 : decode cX7_spills 7 = .ok (.iload_n 2, 1) := by decide +kernel
theorem dX7_spills_8 : decode cX7_spills 8 = .ok (.iadd, 1) := by decide +kernel
theorem dX7_spills_9 : decode cX7_spills 9 = .ok (.iaload, 1) := by decide +kernel
theorem dX7_spills_10 : decode cX7_spills 10 = .ok (.aload_n 0, 1) := by decide +kernel
theorem dX7_spills_11 : decode cX7_spills 11 = .ok (.getfield 7, 3) := by decide +kernel
theorem dX7_spills_14 : decode cX7_spills 14 = .ok (.sipush 229, 3) := by decide +kernel
theorem dX7_spills_17 : decode cX7_spills 17 = .ok (.iaload, 1) := by decide +kernel
theorem dX7_spills_18 : decode cX7_spills 18 = .ok (.isub, 1) := by decide +kernel
theorem dX7_spills_19 : decode cX7_spills 19 = .ok (.istore_n 3, 1) := by decide +kernel
theorem dX7_spills_20 : decode cX7_spills 20 = .ok (.aload_n 0, 1) := by decide +kernel
theorem dX7_spills_21 : decode cX7_spills 21 = .ok (.getfield 7, 3) := by decide +kernel
theorem dX7_spills_24 : decode cX7_spills 24 = .ok (.iconst 3, 1) := by decide +kernel
theorem dX7_spills_25 : decode cX7_spills 25 = .ok (.iload_n 1, 1) := by decide +kernel
theorem dX7_spills_26 : decode cX7_spills 26 = .ok (.imul, 1) := by decide +kernel
theorem dX7_spills_27 : decode cX7_spills 27 = .ok (.iload_n 2, 1) := by decide +kernel
theorem dX7_spills_28 : decode cX7_spills 28 = .ok (.iadd, 1) := by decide +kernel
theorem dX7_spills_29 : decode cX7_spills 29 = .ok (.dup2, 1) := by decide +kernel
theorem dX7_spills_30 : decode cX7_spills 30 = .ok (.iaload, 1) := by decide +kernel
theorem dX7_spills_31 : decode cX7_spills 31 = .ok (.iload_n 3, 1) := by decide +kernel
theorem dX7_spills_32 : decode cX7_spills 32 = .ok (.ifCond .le 7, 3) := by decide +kernel
theorem dX7_spills_35 : decode cX7_spills 35 = .ok (.iload_n 3, 1) := by decide +kernel
theorem dX7_spills_36 : decode cX7_spills 36 = .ok (.goto 4, 3) := by decide +kernel
theorem dX7_spills_39 : decode cX7_spills 39 = .ok (.iconst 0, 1) := by decide +kernel
theorem dX7_spills_40 : decode cX7_spills 40 = .ok (.isub, 1) := by decide +kernel
theorem dX7_spills_41 : decode cX7_spills 41 = .ok (.iastore, 1) := by decide +kernel
theorem dX7_spills_42 : decode cX7_spills 42 = .ok (.aload_n 0, 1) := by decide +kernel
theorem dX7_spills_43 : decode cX7_spills 43 = .ok (.getfield 7, 3) := by decide +kernel
theorem dX7_spills_46 : decode cX7_spills 46 = .ok (.sipush 226, 3) := by decide +kernel
theorem dX7_spills_49 : decode cX7_spills 49 = .ok (.dup2, 1) := by decide +kernel
theorem dX7_spills_50 : decode cX7_spills 50 = .ok (.iaload, 1) := by decide +kernel
theorem dX7_spills_51 : decode cX7_spills 51 = .ok (.iload_n 3, 1) := by decide +kernel
theorem dX7_spills_52 : decode cX7_spills 52 = .ok (.ifCond .le 7, 3) := by decide +kernel
theorem dX7_spills_55 : decode cX7_spills 55 = .ok (.iload_n 3, 1) := by decide +kernel
theorem dX7_spills_56 : decode cX7_spills 56 = .ok (.goto 4, 3) := by decide +kernel
theorem dX7_spills_59 : decode cX7_spills 59 = .ok (.iconst 0, 1) := by decide +kernel
theorem dX7_spills_60 : decode cX7_spills 60 = .ok (.iadd, 1) := by decide +kernel
theorem dX7_spills_61 : decode cX7_spills 61 = .ok (.iastore, 1) := by decide +kernel
theorem dX7_spills_62 : decode cX7_spills 62 = .ok (.return_, 1) := by decide +kernel
theorem dX7_closes_0 : decode cX7_closes 0 = .ok (.aload_n 0, 1) := by decide +kernel
theorem dX7_closes_1 : decode cX7_closes 1 = .ok (.iload_n 1, 1) := by decide +kernel
theorem dX7_closes_2 : decode cX7_closes 2 = .ok (.iconst 5, 1) := by decide +kernel
theorem dX7_closes_3 : decode cX7_closes 3 = .ok (.iload_n 2, 1) := by decide +kernel
theorem dX7_closes_4 : decode cX7_closes 4 = .ok (.iadd, 1) := by decide +kernel
theorem dX7_closes_5 : decode cX7_closes 5 = .ok (.invokevirtual 90, 3) := by decide +kernel
theorem dX7_closes_8 : decode cX7_closes 8 = .ok (.istore_n 3, 1) := by decide +kernel
theorem dX7_closes_9 : decode cX7_closes 9 = .ok (.iload_n 3, 1) := by decide +kernel
theorem dX7_closes_10 : decode cX7_closes 10 = .ok (.ifCond .le 17, 3) := by decide +kernel
theorem dX7_closes_13 : decode cX7_closes 13 = .ok (.aload_n 0, 1) := by decide +kernel
theorem dX7_closes_14 : decode cX7_closes 14 = .ok (.iload_n 1, 1) := by decide +kernel
theorem dX7_closes_15 : decode cX7_closes 15 = .ok (.iconst 5, 1) := by decide +kernel
theorem dX7_closes_16 : decode cX7_closes 16 = .ok (.iload_n 2, 1) := by decide +kernel
theorem dX7_closes_17 : decode cX7_closes 17 = .ok (.iadd, 1) := by decide +kernel
theorem dX7_closes_18 : decode cX7_closes 18 = .ok (.iload_n 3, 1) := by decide +kernel
theorem dX7_closes_19 : decode cX7_closes 19 = .ok (.iconst 1, 1) := by decide +kernel
theorem dX7_closes_20 : decode cX7_closes 20 = .ok (.isub, 1) := by decide +kernel
theorem dX7_closes_21 : decode cX7_closes 21 = .ok (.invokevirtual 33, 3) := by decide +kernel
theorem dX7_closes_24 : decode cX7_closes 24 = .ok (.goto 81, 3) := by decide +kernel
theorem dX7_closes_27 : decode cX7_closes 27 = .ok (.iload_n 3, 1) := by decide +kernel
theorem dX7_closes_28 : decode cX7_closes 28 = .ok (.ifCond .ne 77, 3) := by decide +kernel
theorem dX7_closes_31 : decode cX7_closes 31 = .ok (.aload_n 0, 1) := by decide +kernel
theorem dX7_closes_32 : decode cX7_closes 32 = .ok (.iload_n 1, 1) := by decide +kernel
theorem dX7_closes_33 : decode cX7_closes 33 = .ok (.iconst 0, 1) := by decide +kernel
theorem dX7_closes_34 : decode cX7_closes 34 = .ok (.invokevirtual 90, 3) := by decide +kernel
theorem dX7_closes_37 : decode cX7_closes 37 = .ok (.aload_n 0, 1) := by decide +kernel
theorem dX7_closes_38 : decode cX7_closes 38 = .ok (.getfield 7, 3) := by decide +kernel
theorem dX7_closes_41 : decode cX7_closes 41 = .ok (.sipush 231, 3) := by decide +kernel
theorem dX7_closes_44 : decode cX7_closes 44 = .ok (.iaload, 1) := by decide +kernel
theorem dX7_closes_45 : decode cX7_closes 45 = .ok (.if_icmp .le 7, 3) := by decide +kernel
theorem dX7_closes_48 : decode cX7_closes 48 = .ok (.iconst 1, 1) := by decide +kernel
theorem dX7_closes_49 : decode cX7_closes 49 = .ok (.goto 4, 3) := by decide +kernel
theorem dX7_closes_52 : decode cX7_closes 52 = .ok (.iconst 0, 1) := by decide +kernel
theorem dX7_closes_53 : decode cX7_closes 53 = .ok (.istore 4, 2) := by decide +kernel
theorem dX7_closes_55 : decode cX7_closes 55 = .ok (.aload_n 0, 1) := by decide +kernel
theorem dX7_closes_56 : decode cX7_closes 56 = .ok (.iload_n 1, 1) := by decide +kernel
theorem dX7_closes_57 : decode cX7_closes 57 = .ok (.iconst 2, 1) := by decide +kernel
theorem dX7_closes_58 : decode cX7_closes 58 = .ok (.iload_n 2, 1) := by decide +kernel
theorem dX7_closes_59 : decode cX7_closes 59 = .ok (.iadd, 1) := by decide +kernel
theorem dX7_closes_60 : decode cX7_closes 60 = .ok (.iload 4, 2) := by decide +kernel
theorem dX7_closes_62 : decode cX7_closes 62 = .ok (.ifCond .eq 7, 3) := by decide +kernel
theorem dX7_closes_65 : decode cX7_closes 65 = .ok (.iconst 1, 1) := by decide +kernel
theorem dX7_closes_66 : decode cX7_closes 66 = .ok (.goto 4, 3) := by decide +kernel
theorem dX7_closes_69 : decode cX7_closes 69 = .ok (.iconst 0, 1) := by decide +kernel
theorem dX7_closes_70 : decode cX7_closes 70 = .ok (.invokevirtual 33, 3) := by decide +kernel
theorem dX7_closes_73 : decode cX7_closes 73 = .ok (.aload_n 0, 1) := by decide +kernel
theorem dX7_closes_74 : decode cX7_closes 74 = .ok (.iload_n 1, 1) := by decide +kernel
theorem dX7_closes_75 : decode cX7_closes 75 = .ok (.iconst 5, 1) := by decide +kernel
theorem dX7_closes_76 : decode cX7_closes 76 = .ok (.iload_n 2, 1) := by decide +kernel
theorem dX7_closes_77 : decode cX7_closes 77 = .ok (.iadd, 1) := by decide +kernel
theorem dX7_closes_78 : decode cX7_closes 78 = .ok (.sipush (-1001), 3) := by decide +kernel
theorem dX7_closes_81 : decode cX7_closes 81 = .ok (.invokevirtual 33, 3) := by decide +kernel
theorem dX7_closes_84 : decode cX7_closes 84 = .ok (.aload_n 0, 1) := by decide +kernel
theorem dX7_closes_85 : decode cX7_closes 85 = .ok (.getfield 7, 3) := by decide +kernel
theorem dX7_closes_88 : decode cX7_closes 88 = .ok (.sipush 224, 3) := by decide +kernel
theorem dX7_closes_91 : decode cX7_closes 91 = .ok (.dup2, 1) := by decide +kernel
theorem dX7_closes_92 : decode cX7_closes 92 = .ok (.iaload, 1) := by decide +kernel
theorem dX7_closes_93 : decode cX7_closes 93 = .ok (.iload 4, 2) := by decide +kernel
theorem dX7_closes_95 : decode cX7_closes 95 = .ok (.ifCond .eq 7, 3) := by decide +kernel
theorem dX7_closes_98 : decode cX7_closes 98 = .ok (.iconst 1, 1) := by decide +kernel
theorem dX7_closes_99 : decode cX7_closes 99 = .ok (.goto 4, 3) := by decide +kernel
theorem dX7_closes_102 : decode cX7_closes 102 = .ok (.iconst 0, 1) := by decide +kernel
theorem dX7_closes_103 : decode cX7_closes 103 = .ok (.iadd, 1) := by decide +kernel
theorem dX7_closes_104 : decode cX7_closes 104 = .ok (.iastore, 1) := by decide +kernel
theorem dX7_closes_105 : decode cX7_closes 105 = .ok (.return_, 1) := by decide +kernel
theorem dX7_second_0 : decode cX7_second 0 = .ok (.aload_n 0, 1) := by decide +kernel
theorem dX7_second_1 : decode cX7_second 1 = .ok (.getfield 7, 3) := by decide +kernel
theorem dX7_second_4 : decode cX7_second 4 = .ok (.sipush 220, 3) := by decide +kernel
theorem dX7_second_7 : decode cX7_second 7 = .ok (.dup2, 1) := by decide +kernel
theorem dX7_second_8 : decode cX7_second 8 = .ok (.iaload, 1) := by decide +kernel
theorem dX7_second_9 : decode cX7_second 9 = .ok (.aload_n 0, 1) := by decide +kernel
theorem dX7_second_10 : decode cX7_second 10 = .ok (.getfield 7, 3) := by decide +kernel
theorem dX7_second_13 : decode cX7_second 13 = .ok (.sipush 221, 3) := by decide +kernel
theorem dX7_second_16 : decode cX7_second 16 = .ok (.iaload, 1) := by decide +kernel
theorem dX7_second_17 : decode cX7_second 17 = .ok (.aload_n 0, 1) := by decide +kernel
theorem dX7_second_18 : decode cX7_second 18 = .ok (.getfield 7, 3) := by decide +kernel
theorem dX7_second_21 : decode cX7_second 21 = .ok (.sipush 220, 3) := by decide +kernel
theorem dX7_second_24 : decode cX7_second 24 = .ok (.iaload, 1) := by decide +kernel
theorem dX7_second_25 : decode cX7_second 25 = .ok (.if_icmp .le 7, 3) := by decide +kernel
theorem dX7_second_28 : decode cX7_second 28 = .ok (.iconst 1, 1) := by decide +kernel
theorem dX7_second_29 : decode cX7_second 29 = .ok (.goto 27, 3) := by decide +kernel
theorem dX7_second_32 : decode cX7_second 32 = .ok (.aload_n 0, 1) := by decide +kernel
theorem dX7_second_33 : decode cX7_second 33 = .ok (.getfield 7, 3) := by decide +kernel
theorem dX7_second_36 : decode cX7_second 36 = .ok (.sipush 221, 3) := by decide +kernel
theorem dX7_second_39 : decode cX7_second 39 = .ok (.iaload, 1) := by decide +kernel
theorem dX7_second_40 : decode cX7_second 40 = .ok (.aload_n 0, 1) := by decide +kernel
theorem dX7_second_41 : decode cX7_second 41 = .ok (.getfield 7, 3) := by decide +kernel
theorem dX7_second_44 : decode cX7_second 44 = .ok (.sipush 220, 3) := by decide +kernel
theorem dX7_second_47 : decode cX7_second 47 = .ok (.iaload, 1) := by decide +kernel
theorem dX7_second_48 : decode cX7_second 48 = .ok (.if_icmp .ge 7, 3) := by decide +kernel
theorem dX7_second_51 : decode cX7_second 51 = .ok (.iconst (-1), 1) := by decide +kernel
theorem dX7_second_52 : decode cX7_second 52 = .ok (.goto 4, 3) := by decide +kernel
theorem dX7_second_55 : decode cX7_second 55 = .ok (.iconst 0, 1) := by decide +kernel
theorem dX7_second_56 : decode cX7_second 56 = .ok (.iadd, 1) := by decide +kernel
theorem dX7_second_57 : decode cX7_second 57 = .ok (.iastore, 1) := by decide +kernel
theorem dX7_second_58 : decode cX7_second 58 = .ok (.aload_n 0, 1) := by decide +kernel
theorem dX7_second_59 : decode cX7_second 59 = .ok (.getfield 7, 3) := by decide +kernel
theorem dX7_second_62 : decode cX7_second 62 = .ok (.sipush 219, 3) := by decide +kernel
theorem dX7_second_65 : decode cX7_second 65 = .ok (.bipush 99, 2) := by decide +kernel
theorem dX7_second_67 : decode cX7_second 67 = .ok (.aload_n 0, 1) := by decide +kernel
theorem dX7_second_68 : decode cX7_second 68 = .ok (.getfield 7, 3) := by decide +kernel
theorem dX7_second_71 : decode cX7_second 71 = .ok (.sipush 219, 3) := by decide +kernel
theorem dX7_second_74 : decode cX7_second 74 = .ok (.iaload, 1) := by decide +kernel
theorem dX7_second_75 : decode cX7_second 75 = .ok (.aload_n 0, 1) := by decide +kernel
theorem dX7_second_76 : decode cX7_second 76 = .ok (.getfield 7, 3) := by decide +kernel
theorem dX7_second_79 : decode cX7_second 79 = .ok (.sipush 220, 3) := by decide +kernel
theorem dX7_second_82 : decode cX7_second 82 = .ok (.iaload, 1) := by decide +kernel
theorem dX7_second_83 : decode cX7_second 83 = .ok (.iadd, 1) := by decide +kernel
theorem dX7_second_84 : decode cX7_second 84 = .ok (.invokestatic 102, 3) := by decide +kernel
theorem dX7_second_87 : decode cX7_second 87 = .ok (.iastore, 1) := by decide +kernel
theorem dX7_second_88 : decode cX7_second 88 = .ok (.aload_n 0, 1) := by decide +kernel
theorem dX7_second_89 : decode cX7_second 89 = .ok (.invokevirtual 108, 3) := by decide +kernel
theorem dX7_second_92 : decode cX7_second 92 = .ok (.iconst 0, 1) := by decide +kernel
theorem dX7_second_93 : decode cX7_second 93 = .ok (.istore_n 1, 1) := by decide +kernel
theorem dX7_second_94 : decode cX7_second 94 = .ok (.iload_n 1, 1) := by decide +kernel
theorem dX7_second_95 : decode cX7_second 95 = .ok (.iconst 3, 1) := by decide +kernel
theorem dX7_second_96 : decode cX7_second 96 = .ok (.aload_n 0, 1) := by decide +kernel
theorem dX7_second_97 : decode cX7_second 97 = .ok (.getfield 7, 3) := by decide +kernel
theorem dX7_second_100 : decode cX7_second 100 = .ok (.sipush 218, 3) := by decide +kernel
theorem dX7_second_103 : decode cX7_second 103 = .ok (.iaload, 1) := by decide +kernel
theorem dX7_second_104 : decode cX7_second 104 = .ok (.imul, 1) := by decide +kernel
theorem dX7_second_105 : decode cX7_second 105 = .ok (.if_icmp .ge 19, 3) := by decide +kernel
theorem dX7_second_108 : decode cX7_second 108 = .ok (.aload_n 0, 1) := by decide +kernel
theorem dX7_second_109 : decode cX7_second 109 = .ok (.iload_n 1, 1) := by decide +kernel
theorem dX7_second_110 : decode cX7_second 110 = .ok (.iconst 3, 1) := by decide +kernel
theorem dX7_second_111 : decode cX7_second 111 = .ok (.idiv, 1) := by decide +kernel
theorem dX7_second_112 : decode cX7_second 112 = .ok (.iload_n 1, 1) := by decide +kernel
theorem dX7_second_113 : decode cX7_second 113 = .ok (.iconst 3, 1) := by decide +kernel
theorem dX7_second_114 : decode cX7_second 114 = .ok (.irem, 1) := by decide +kernel
theorem dX7_second_115 : decode cX7_second 115 = .ok (.invokevirtual 111, 3) := by decide +kernel
theorem dX7_second_118 : decode cX7_second 118 = .ok (.iinc 1 1, 3) := by decide +kernel
theorem dX7_second_121 : decode cX7_second 121 = .ok (.goto (-27), 3) := by decide +kernel
theorem dX7_second_124 : decode cX7_second 124 = .ok (.iconst 0, 1) := by decide +kernel
theorem dX7_second_125 : decode cX7_second 125 = .ok (.istore_n 1, 1) := by decide +kernel
theorem dX7_second_126 : decode cX7_second 126 = .ok (.iload_n 1, 1) := by decide +kernel
theorem dX7_second_127 : decode cX7_second 127 = .ok (.bipush 117, 2) := by decide +kernel
theorem dX7_second_129 : decode cX7_second 129 = .ok (.if_icmp .ge 19, 3) := by decide +kernel
theorem dX7_second_132 : decode cX7_second 132 = .ok (.aload_n 0, 1) := by decide +kernel
theorem dX7_second_133 : decode cX7_second 133 = .ok (.iload_n 1, 1) := by decide +kernel
theorem dX7_second_134 : decode cX7_second 134 = .ok (.iconst 3, 1) := by decide +kernel
theorem dX7_second_135 : decode cX7_second 135 = .ok (.idiv, 1) := by decide +kernel
theorem dX7_second_136 : decode cX7_second 136 = .ok (.iload_n 1, 1) := by decide +kernel
theorem dX7_second_137 : decode cX7_second 137 = .ok (.iconst 3, 1) := by decide +kernel
theorem dX7_second_138 : decode cX7_second 138 = .ok (.irem, 1) := by decide +kernel
theorem dX7_second_139 : decode cX7_second 139 = .ok (.invokevirtual 115, 3) := by decide +kernel
theorem dX7_second_142 : decode cX7_second 142 = .ok (.iinc 1 1, 3) := by decide +kernel
theorem dX7_second_145 : decode cX7_second 145 = .ok (.goto (-19), 3) := by decide +kernel
theorem dX7_second_148 : decode cX7_second 148 = .ok (.iconst 0, 1) := by decide +kernel
theorem dX7_second_149 : decode cX7_second 149 = .ok (.istore_n 1, 1) := by decide +kernel
theorem dX7_second_150 : decode cX7_second 150 = .ok (.iload_n 1, 1) := by decide +kernel
theorem dX7_second_151 : decode cX7_second 151 = .ok (.bipush 40, 2) := by decide +kernel
theorem dX7_second_153 : decode cX7_second 153 = .ok (.if_icmp .ge 21, 3) := by decide +kernel
theorem dX7_second_156 : decode cX7_second 156 = .ok (.aload_n 0, 1) := by decide +kernel
theorem dX7_second_157 : decode cX7_second 157 = .ok (.iload_n 1, 1) := by decide +kernel
theorem dX7_second_158 : decode cX7_second 158 = .ok (.iconst 0, 1) := by decide +kernel
theorem dX7_second_159 : decode cX7_second 159 = .ok (.invokevirtual 118, 3) := by decide +kernel
theorem dX7_second_162 : decode cX7_second 162 = .ok (.aload_n 0, 1) := by decide +kernel
theorem dX7_second_163 : decode cX7_second 163 = .ok (.iload_n 1, 1) := by decide +kernel
theorem dX7_second_164 : decode cX7_second 164 = .ok (.iconst 2, 1) := by decide +kernel
theorem dX7_second_165 : decode cX7_second 165 = .ok (.invokevirtual 118, 3) := by decide +kernel
theorem dX7_second_168 : decode cX7_second 168 = .ok (.iinc 1 1, 3) := by decide +kernel
theorem dX7_second_171 : decode cX7_second 171 = .ok (.goto (-21), 3) := by decide +kernel
theorem dX7_second_174 : decode cX7_second 174 = .ok (.iconst 0, 1) := by decide +kernel
theorem dX7_second_175 : decode cX7_second 175 = .ok (.istore_n 1, 1) := by decide +kernel
theorem dX7_second_176 : decode cX7_second 176 = .ok (.iload_n 1, 1) := by decide +kernel
theorem dX7_second_177 : decode cX7_second 177 = .ok (.iconst 3, 1) := by decide +kernel
theorem dX7_second_178 : decode cX7_second 178 = .ok (.aload_n 0, 1) := by decide +kernel
theorem dX7_second_179 : decode cX7_second 179 = .ok (.getfield 7, 3) := by decide +kernel
theorem dX7_second_182 : decode cX7_second 182 = .ok (.sipush 218, 3) := by decide +kernel
theorem dX7_second_185 : decode cX7_second 185 = .ok (.iaload, 1) := by decide +kernel
theorem dX7_second_186 : decode cX7_second 186 = .ok (.imul, 1) := by decide +kernel
theorem dX7_second_187 : decode cX7_second 187 = .ok (.if_icmp .ge 19, 3) := by decide +kernel
theorem dX7_second_190 : decode cX7_second 190 = .ok (.aload_n 0, 1) := by decide +kernel
theorem dX7_second_191 : decode cX7_second 191 = .ok (.iload_n 1, 1) := by decide +kernel
theorem dX7_second_192 : decode cX7_second 192 = .ok (.iconst 3, 1) := by decide +kernel
theorem dX7_second_193 : decode cX7_second 193 = .ok (.idiv, 1) := by decide +kernel
theorem dX7_second_194 : decode cX7_second 194 = .ok (.iload_n 1, 1) := by decide +kernel
theorem dX7_second_195 : decode cX7_second 195 = .ok (.iconst 3, 1) := by decide +kernel
theorem dX7_second_196 : decode cX7_second 196 = .ok (.irem, 1) := by decide +kernel
theorem dX7_second_197 : decode cX7_second 197 = .ok (.invokevirtual 121, 3) := by decide +kernel
theorem dX7_second_200 : decode cX7_second 200 = .ok (.iinc 1 1, 3) := by decide +kernel
theorem dX7_second_203 : decode cX7_second 203 = .ok (.goto (-27), 3) := by decide +kernel
theorem dX7_second_206 : decode cX7_second 206 = .ok (.aload_n 0, 1) := by decide +kernel
theorem dX7_second_207 : decode cX7_second 207 = .ok (.getfield 7, 3) := by decide +kernel
theorem dX7_second_210 : decode cX7_second 210 = .ok (.sipush 222, 3) := by decide +kernel
theorem dX7_second_213 : decode cX7_second 213 = .ok (.dup2, 1) := by decide +kernel
theorem dX7_second_214 : decode cX7_second 214 = .ok (.iaload, 1) := by decide +kernel
theorem dX7_second_215 : decode cX7_second 215 = .ok (.iconst 1, 1) := by decide +kernel
theorem dX7_second_216 : decode cX7_second 216 = .ok (.iadd, 1) := by decide +kernel
theorem dX7_second_217 : decode cX7_second 217 = .ok (.iastore, 1) := by decide +kernel
theorem dX7_second_218 : decode cX7_second 218 = .ok (.return_, 1) := by decide +kernel
theorem dX7_set_0 : decode cX7_set 0 = .ok (.iload_n 1, 1) := by decide +kernel
theorem dX7_set_1 : decode cX7_set 1 = .ok (.ifCond .ne 8, 3) := by decide +kernel
theorem dX7_set_4 : decode cX7_set 4 = .ok (.bipush 20, 2) := by decide +kernel
theorem dX7_set_6 : decode cX7_set 6 = .ok (.goto 31, 3) := by decide +kernel
theorem dX7_set_9 : decode cX7_set 9 = .ok (.iload_n 1, 1) := by decide +kernel
theorem dX7_set_10 : decode cX7_set 10 = .ok (.iconst 1, 1) := by decide +kernel
theorem dX7_set_11 : decode cX7_set 11 = .ok (.if_icmp .eq 8, 3) := by decide +kernel
theorem dX7_set_14 : decode cX7_set 14 = .ok (.iload_n 1, 1) := by decide +kernel
theorem dX7_set_15 : decode cX7_set 15 = .ok (.iconst 4, 1) := by decide +kernel
theorem dX7_set_16 : decode cX7_set 16 = .ok (.if_icmp .ne 8, 3) := by decide +kernel
theorem dX7_set_19 : decode cX7_set 19 = .ok (.bipush 60, 2) := by decide +kernel
theorem dX7_set_21 : decode cX7_set 21 = .ok (.goto 16, 3) := by decide +kernel
theorem dX7_set_24 : decode cX7_set 24 = .ok (.iload_n 1, 1) := by decide +kernel
theorem dX7_set_25 : decode cX7_set 25 = .ok (.iconst 2, 1) := by decide +kernel
theorem dX7_set_26 : decode cX7_set 26 = .ok (.if_icmp .ne 8, 3) := by decide +kernel
theorem dX7_set_29 : decode cX7_set 29 = .ok (.bipush 9, 2) := by decide +kernel
theorem dX7_set_31 : decode cX7_set 31 = .ok (.goto 6, 3) := by decide +kernel
theorem dX7_set_34 : decode cX7_set 34 = .ok (.sipush 200, 3) := by decide +kernel
theorem dX7_set_37 : decode cX7_set 37 = .ok (.istore_n 3, 1) := by decide +kernel
theorem dX7_set_38 : decode cX7_set 38 = .ok (.iload_n 1, 1) := by decide +kernel
theorem dX7_set_39 : decode cX7_set 39 = .ok (.iconst 0, 1) := by decide +kernel
theorem dX7_set_40 : decode cX7_set 40 = .ok (.iconst 4, 1) := by decide +kernel
theorem dX7_set_41 : decode cX7_set 41 = .ok (.invokestatic 29, 3) := by decide +kernel
theorem dX7_set_44 : decode cX7_set 44 = .ok (.ifCond .eq 21, 3) := by decide +kernel
theorem dX7_set_47 : decode cX7_set 47 = .ok (.iload_n 2, 1) := by decide +kernel
theorem dX7_set_48 : decode cX7_set 48 = .ok (.iload_n 1, 1) := by decide +kernel
theorem dX7_set_49 : decode cX7_set 49 = .ok (.iconst 2, 1) := by decide +kernel
theorem dX7_set_50 : decode cX7_set 50 = .ok (.if_icmp .ge 7, 3) := by decide +kernel
theorem dX7_set_53 : decode cX7_set 53 = .ok (.iconst 1, 1) := by decide +kernel
theorem dX7_set_54 : decode cX7_set 54 = .ok (.goto 4, 3) := by decide +kernel
theorem dX7_set_57 : decode cX7_set 57 = .ok (.iconst 0, 1) := by decide +kernel
theorem dX7_set_58 : decode cX7_set 58 = .ok (.iload_n 3, 1) := by decide +kernel
theorem dX7_set_59 : decode cX7_set 59 = .ok (.invokestatic 29, 3) := by decide +kernel
theorem dX7_set_62 : decode cX7_set 62 = .ok (.ifCond .ne 7, 3) := by decide +kernel
theorem dX7_set_65 : decode cX7_set 65 = .ok (.sipush (-1002), 3) := by decide +kernel
theorem dX7_set_68 : decode cX7_set 68 = .ok (.ireturn, 1) := by decide +kernel
theorem dX7_set_69 : decode cX7_set 69 = .ok (.aload_n 0, 1) := by decide +kernel
theorem dX7_set_70 : decode cX7_set 70 = .ok (.invokevirtual 124, 3) := by decide +kernel
theorem dX7_set_73 : decode cX7_set 73 = .ok (.aload_n 0, 1) := by decide +kernel
theorem dX7_set_74 : decode cX7_set 74 = .ok (.getfield 7, 3) := by decide +kernel
theorem dX7_set_77 : decode cX7_set 77 = .ok (.sipush 228, 3) := by decide +kernel
theorem dX7_set_80 : decode cX7_set 80 = .ok (.iload_n 1, 1) := by decide +kernel
theorem dX7_set_81 : decode cX7_set 81 = .ok (.iadd, 1) := by decide +kernel
theorem dX7_set_82 : decode cX7_set 82 = .ok (.iaload, 1) := by decide +kernel
theorem dX7_set_83 : decode cX7_set 83 = .ok (.istore 4, 2) := by decide +kernel
theorem dX7_set_85 : decode cX7_set 85 = .ok (.aload_n 0, 1) := by decide +kernel
theorem dX7_set_86 : decode cX7_set 86 = .ok (.getfield 7, 3) := by decide +kernel
theorem dX7_set_89 : decode cX7_set 89 = .ok (.sipush 228, 3) := by decide +kernel
theorem dX7_set_92 : decode cX7_set 92 = .ok (.iload_n 1, 1) := by decide +kernel
theorem dX7_set_93 : decode cX7_set 93 = .ok (.iadd, 1) := by decide +kernel
theorem dX7_set_94 : decode cX7_set 94 = .ok (.iload_n 2, 1) := by decide +kernel
theorem dX7_set_95 : decode cX7_set 95 = .ok (.iastore, 1) := by decide +kernel
theorem dX7_set_96 : decode cX7_set 96 = .ok (.iload 4, 2) := by decide +kernel
theorem dX7_set_98 : decode cX7_set 98 = .ok (.ireturn, 1) := by decide +kernel
theorem dX7_inWagons_0 : decode cX7_inWagons 0 = .ok (.iconst 0, 1) := by decide +kernel
theorem dX7_inWagons_1 : decode cX7_inWagons 1 = .ok (.istore_n 1, 1) := by decide +kernel
theorem dX7_inWagons_2 : decode cX7_inWagons 2 = .ok (.iconst 0, 1) := by decide +kernel
theorem dX7_inWagons_3 : decode cX7_inWagons 3 = .ok (.istore_n 2, 1) := by decide +kernel
theorem dX7_inWagons_4 : decode cX7_inWagons 4 = .ok (.iload_n 2, 1) := by decide +kernel
theorem dX7_inWagons_5 : decode cX7_inWagons 5 = .ok (.aload_n 0, 1) := by decide +kernel
theorem dX7_inWagons_6 : decode cX7_inWagons 6 = .ok (.getfield 7, 3) := by decide +kernel
theorem dX7_inWagons_9 : decode cX7_inWagons 9 = .ok (.sipush 218, 3) := by decide +kernel
theorem dX7_inWagons_12 : decode cX7_inWagons 12 = .ok (.iaload, 1) := by decide +kernel
theorem dX7_inWagons_13 : decode cX7_inWagons 13 = .ok (.if_icmp .ge 18, 3) := by decide +kernel
theorem dX7_inWagons_16 : decode cX7_inWagons 16 = .ok (.iload_n 1, 1) := by decide +kernel
theorem dX7_inWagons_17 : decode cX7_inWagons 17 = .ok (.aload_n 0, 1) := by decide +kernel
theorem dX7_inWagons_18 : decode cX7_inWagons 18 = .ok (.iload_n 2, 1) := by decide +kernel
theorem dX7_inWagons_19 : decode cX7_inWagons 19 = .ok (.iconst 0, 1) := by decide +kernel
theorem dX7_inWagons_20 : decode cX7_inWagons 20 = .ok (.invokevirtual 90, 3) := by decide +kernel
theorem dX7_inWagons_23 : decode cX7_inWagons 23 = .ok (.iadd, 1) := by decide +kernel
theorem dX7_inWagons_24 : decode cX7_inWagons 24 = .ok (.istore_n 1, 1) := by decide +kernel
theorem dX7_inWagons_25 : decode cX7_inWagons 25 = .ok (.iinc 2 1, 3) := by decide +kernel
theorem dX7_inWagons_28 : decode cX7_inWagons 28 = .ok (.goto (-24), 3) := by decide +kernel
theorem dX7_inWagons_31 : decode cX7_inWagons 31 = .ok (.iload_n 1, 1) := by decide +kernel
theorem dX7_inWagons_32 : decode cX7_inWagons 32 = .ok (.ireturn, 1) := by decide +kernel
theorem dX7_setTrain_0 : decode cX7_setTrain 0 = .ok (.iload_n 1, 1) := by decide +kernel
theorem dX7_setTrain_1 : decode cX7_setTrain 1 = .ok (.iconst 1, 1) := by decide +kernel
theorem dX7_setTrain_2 : decode cX7_setTrain 2 = .ok (.bipush 6, 2) := by decide +kernel
theorem dX7_setTrain_4 : decode cX7_setTrain 4 = .ok (.invokestatic 29, 3) := by decide +kernel
theorem dX7_setTrain_7 : decode cX7_setTrain 7 = .ok (.ifCond .ne 7, 3) := by decide +kernel
theorem dX7_setTrain_10 : decode cX7_setTrain 10 = .ok (.sipush (-1002), 3) := by decide +kernel
theorem dX7_setTrain_13 : decode cX7_setTrain 13 = .ok (.ireturn, 1) := by decide +kernel
theorem dX7_setTrain_14 : decode cX7_setTrain 14 = .ok (.aload_n 0, 1) := by decide +kernel
theorem dX7_setTrain_15 : decode cX7_setTrain 15 = .ok (.invokevirtual 124, 3) := by decide +kernel
theorem dX7_setTrain_18 : decode cX7_setTrain 18 = .ok (.aload_n 0, 1) := by decide +kernel
theorem dX7_setTrain_19 : decode cX7_setTrain 19 = .ok (.invokevirtual 127, 3) := by decide +kernel
theorem dX7_setTrain_22 : decode cX7_setTrain 22 = .ok (.istore_n 2, 1) := by decide +kernel
theorem dX7_setTrain_23 : decode cX7_setTrain 23 = .ok (.aload_n 0, 1) := by decide +kernel
theorem dX7_setTrain_24 : decode cX7_setTrain 24 = .ok (.getfield 7, 3) := by decide +kernel
theorem dX7_setTrain_27 : decode cX7_setTrain 27 = .ok (.sipush 227, 3) := by decide +kernel
theorem dX7_setTrain_30 : decode cX7_setTrain 30 = .ok (.dup2, 1) := by decide +kernel
theorem dX7_setTrain_31 : decode cX7_setTrain 31 = .ok (.iaload, 1) := by decide +kernel
theorem dX7_setTrain_32 : decode cX7_setTrain 32 = .ok (.iload_n 2, 1) := by decide +kernel
theorem dX7_setTrain_33 : decode cX7_setTrain 33 = .ok (.iadd, 1) := by decide +kernel
theorem dX7_setTrain_34 : decode cX7_setTrain 34 = .ok (.iastore, 1) := by decide +kernel
theorem dX7_setTrain_35 : decode cX7_setTrain 35 = .ok (.aload_n 0, 1) := by decide +kernel
theorem dX7_setTrain_36 : decode cX7_setTrain 36 = .ok (.iload_n 1, 1) := by decide +kernel
theorem dX7_setTrain_37 : decode cX7_setTrain 37 = .ok (.invokevirtual 25, 3) := by decide +kernel
theorem dX7_setTrain_40 : decode cX7_setTrain 40 = .ok (.iload_n 2, 1) := by decide +kernel
theorem dX7_setTrain_41 : decode cX7_setTrain 41 = .ok (.ireturn, 1) := by decide +kernel
theorem dX7_load_0 : decode cX7_load 0 = .ok (.aload_n 0, 1) := by decide +kernel
theorem dX7_load_1 : decode cX7_load 1 = .ok (.iload_n 1, 1) := by decide +kernel
theorem dX7_load_2 : decode cX7_load 2 = .ok (.invokevirtual 86, 3) := by decide +kernel
theorem dX7_load_5 : decode cX7_load 5 = .ok (.ifCond .eq 14, 3) := by decide +kernel
theorem dX7_load_8 : decode cX7_load 8 = .ok (.iload_n 2, 1) := by decide +kernel
theorem dX7_load_9 : decode cX7_load 9 = .ok (.iconst 1, 1) := by decide +kernel
theorem dX7_load_10 : decode cX7_load 10 = .ok (.sipush 200, 3) := by decide +kernel
theorem dX7_load_13 : decode cX7_load 13 = .ok (.invokestatic 29, 3) := by decide +kernel
theorem dX7_load_16 : decode cX7_load 16 = .ok (.ifCond .ne 7, 3) := by decide +kernel
theorem dX7_load_19 : decode cX7_load 19 = .ok (.sipush (-1002), 3) := by decide +kernel
theorem dX7_load_22 : decode cX7_load 22 = .ok (.ireturn, 1) := by decide +kernel
theorem dX7_load_23 : decode cX7_load 23 = .ok (.aload_n 0, 1) := by decide +kernel
theorem dX7_load_24 : decode cX7_load 24 = .ok (.getfield 7, 3) := by decide +kernel
theorem dX7_load_27 : decode cX7_load 27 = .ok (.sipush 220, 3) := by decide +kernel
theorem dX7_load_30 : decode cX7_load 30 = .ok (.iaload, 1) := by decide +kernel
theorem dX7_load_31 : decode cX7_load 31 = .ok (.ifCond .eq 7, 3) := by decide +kernel
theorem dX7_load_34 : decode cX7_load 34 = .ok (.sipush (-1003), 3) := by decide +kernel
theorem dX7_load_37 : decode cX7_load 37 = .ok (.ireturn, 1) := by decide +kernel
theorem dX7_load_38 : decode cX7_load 38 = .ok (.aload_n 0, 1) := by decide +kernel
theorem dX7_load_39 : decode cX7_load 39 = .ok (.iload_n 1, 1) := by decide +kernel
theorem dX7_load_40 : decode cX7_load 40 = .ok (.iconst 0, 1) := by decide +kernel
theorem dX7_load_41 : decode cX7_load 41 = .ok (.invokevirtual 90, 3) := by decide +kernel
theorem dX7_load_44 : decode cX7_load 44 = .ok (.iload_n 2, 1) := by decide +kernel
theorem dX7_load_45 : decode cX7_load 45 = .ok (.iadd, 1) := by decide +kernel
theorem dX7_load_46 : decode cX7_load 46 = .ok (.sipush 200, 3) := by decide +kernel
theorem dX7_load_49 : decode cX7_load 49 = .ok (.if_icmp .le 7, 3) := by decide +kernel
theorem dX7_load_52 : decode cX7_load 52 = .ok (.sipush (-1004), 3) := by decide +kernel
theorem dX7_load_55 : decode cX7_load 55 = .ok (.ireturn, 1) := by decide +kernel
theorem dX7_load_56 : decode cX7_load 56 = .ok (.aload_n 0, 1) := by decide +kernel
theorem dX7_load_57 : decode cX7_load 57 = .ok (.invokevirtual 124, 3) := by decide +kernel
theorem dX7_load_60 : decode cX7_load 60 = .ok (.aload_n 0, 1) := by decide +kernel
theorem dX7_load_61 : decode cX7_load 61 = .ok (.iload_n 1, 1) := by decide +kernel
theorem dX7_load_62 : decode cX7_load 62 = .ok (.iconst 0, 1) := by decide +kernel
theorem dX7_load_63 : decode cX7_load 63 = .ok (.aload_n 0, 1) := by decide +kernel
theorem dX7_load_64 : decode cX7_load 64 = .ok (.iload_n 1, 1) := by decide +kernel
theorem dX7_load_65 : decode cX7_load 65 = .ok (.iconst 0, 1) := by decide +kernel
theorem dX7_load_66 : decode cX7_load 66 = .ok (.invokevirtual 90, 3) := by decide +kernel
theorem dX7_load_69 : decode cX7_load 69 = .ok (.iload_n 2, 1) := by decide +kernel
theorem dX7_load_70 : decode cX7_load 70 = .ok (.iadd, 1) := by decide +kernel
theorem dX7_load_71 : decode cX7_load 71 = .ok (.invokevirtual 33, 3) := by decide +kernel
theorem dX7_load_74 : decode cX7_load 74 = .ok (.aload_n 0, 1) := by decide +kernel
theorem dX7_load_75 : decode cX7_load 75 = .ok (.getfield 7, 3) := by decide +kernel
theorem dX7_load_78 : decode cX7_load 78 = .ok (.sipush 225, 3) := by decide +kernel
theorem dX7_load_81 : decode cX7_load 81 = .ok (.dup2, 1) := by decide +kernel
theorem dX7_load_82 : decode cX7_load 82 = .ok (.iaload, 1) := by decide +kernel
theorem dX7_load_83 : decode cX7_load 83 = .ok (.iload_n 2, 1) := by decide +kernel
theorem dX7_load_84 : decode cX7_load 84 = .ok (.iadd, 1) := by decide +kernel
theorem dX7_load_85 : decode cX7_load 85 = .ok (.iastore, 1) := by decide +kernel
theorem dX7_load_86 : decode cX7_load 86 = .ok (.aload_n 0, 1) := by decide +kernel
theorem dX7_load_87 : decode cX7_load 87 = .ok (.iload_n 1, 1) := by decide +kernel
theorem dX7_load_88 : decode cX7_load 88 = .ok (.iconst 0, 1) := by decide +kernel
theorem dX7_load_89 : decode cX7_load 89 = .ok (.invokevirtual 90, 3) := by decide +kernel
theorem dX7_load_92 : decode cX7_load 92 = .ok (.ireturn, 1) := by decide +kernel
theorem dX7_door_0 : decode cX7_door 0 = .ok (.aload_n 0, 1) := by decide +kernel
theorem dX7_door_1 : decode cX7_door 1 = .ok (.iload_n 1, 1) := by decide +kernel
theorem dX7_door_2 : decode cX7_door 2 = .ok (.invokevirtual 86, 3) := by decide +kernel
theorem dX7_door_5 : decode cX7_door 5 = .ok (.ifCond .eq 19, 3) := by decide +kernel
theorem dX7_door_8 : decode cX7_door 8 = .ok (.iload_n 2, 1) := by decide +kernel
theorem dX7_door_9 : decode cX7_door 9 = .ok (.invokestatic 130, 3) := by decide +kernel
theorem dX7_door_12 : decode cX7_door 12 = .ok (.ifCond .eq 12, 3) := by decide +kernel
theorem dX7_door_15 : decode cX7_door 15 = .ok (.iload_n 3, 1) := by decide +kernel
theorem dX7_door_16 : decode cX7_door 16 = .ok (.iconst 0, 1) := by decide +kernel
theorem dX7_door_17 : decode cX7_door 17 = .ok (.iconst 3, 1) := by decide +kernel
theorem dX7_door_18 : decode cX7_door 18 = .ok (.invokestatic 29, 3) := by decide +kernel
theorem dX7_door_21 : decode cX7_door 21 = .ok (.ifCond .ne 7, 3) := by decide +kernel
theorem dX7_door_24 : decode cX7_door 24 = .ok (.sipush (-1002), 3) := by decide +kernel
theorem dX7_door_27 : decode cX7_door 27 = .ok (.ireturn, 1) := by decide +kernel
theorem dX7_door_28 : decode cX7_door 28 = .ok (.aload_n 0, 1) := by decide +kernel
theorem dX7_door_29 : decode cX7_door 29 = .ok (.invokevirtual 124, 3) := by decide +kernel
theorem dX7_door_32 : decode cX7_door 32 = .ok (.aload_n 0, 1) := by decide +kernel
theorem dX7_door_33 : decode cX7_door 33 = .ok (.iload_n 1, 1) := by decide +kernel
theorem dX7_door_34 : decode cX7_door 34 = .ok (.iconst 2, 1) := by decide +kernel
theorem dX7_door_35 : decode cX7_door 35 = .ok (.iload_n 2, 1) := by decide +kernel
theorem dX7_door_36 : decode cX7_door 36 = .ok (.iadd, 1) := by decide +kernel
theorem dX7_door_37 : decode cX7_door 37 = .ok (.invokevirtual 90, 3) := by decide +kernel
theorem dX7_door_40 : decode cX7_door 40 = .ok (.istore 4, 2) := by decide +kernel
theorem dX7_door_42 : decode cX7_door 42 = .ok (.aload_n 0, 1) := by decide +kernel
theorem dX7_door_43 : decode cX7_door 43 = .ok (.iload_n 1, 1) := by decide +kernel
theorem dX7_door_44 : decode cX7_door 44 = .ok (.iload_n 2, 1) := by decide +kernel
theorem dX7_door_45 : decode cX7_door 45 = .ok (.iload_n 3, 1) := by decide +kernel
theorem dX7_door_46 : decode cX7_door 46 = .ok (.invokevirtual 96, 3) := by decide +kernel
theorem dX7_door_49 : decode cX7_door 49 = .ok (.iload 4, 2) := by decide +kernel
theorem dX7_door_51 : decode cX7_door 51 = .ok (.ireturn, 1) := by decide +kernel
theorem dX7_wish_0 : decode cX7_wish 0 = .ok (.iload_n 1, 1) := by decide +kernel
theorem dX7_wish_1 : decode cX7_wish 1 = .ok (.iconst 0, 1) := by decide +kernel
theorem dX7_wish_2 : decode cX7_wish 2 = .ok (.iconst 3, 1) := by decide +kernel
theorem dX7_wish_3 : decode cX7_wish 3 = .ok (.invokestatic 29, 3) := by decide +kernel
theorem dX7_wish_6 : decode cX7_wish 6 = .ok (.ifCond .ne 7, 3) := by decide +kernel
theorem dX7_wish_9 : decode cX7_wish 9 = .ok (.sipush (-1002), 3) := by decide +kernel
theorem dX7_wish_12 : decode cX7_wish 12 = .ok (.ireturn, 1) := by decide +kernel
theorem dX7_wish_13 : decode cX7_wish 13 = .ok (.aload_n 0, 1) := by decide +kernel
theorem dX7_wish_14 : decode cX7_wish 14 = .ok (.invokevirtual 124, 3) := by decide +kernel
theorem dX7_wish_17 : decode cX7_wish 17 = .ok (.aload_n 0, 1) := by decide +kernel
theorem dX7_wish_18 : decode cX7_wish 18 = .ok (.getfield 7, 3) := by decide +kernel
theorem dX7_wish_21 : decode cX7_wish 21 = .ok (.sipush 221, 3) := by decide +kernel
theorem dX7_wish_24 : decode cX7_wish 24 = .ok (.iaload, 1) := by decide +kernel
theorem dX7_wish_25 : decode cX7_wish 25 = .ok (.istore_n 2, 1) := by decide +kernel
theorem dX7_wish_26 : decode cX7_wish 26 = .ok (.aload_n 0, 1) := by decide +kernel
theorem dX7_wish_27 : decode cX7_wish 27 = .ok (.getfield 7, 3) := by decide +kernel
theorem dX7_wish_30 : decode cX7_wish 30 = .ok (.sipush 221, 3) := by decide +kernel
theorem dX7_wish_33 : decode cX7_wish 33 = .ok (.iload_n 1, 1) := by decide +kernel
theorem dX7_wish_34 : decode cX7_wish 34 = .ok (.iastore, 1) := by decide +kernel
theorem dX7_wish_35 : decode cX7_wish 35 = .ok (.iload_n 2, 1) := by decide +kernel
theorem dX7_wish_36 : decode cX7_wish 36 = .ok (.ireturn, 1) := by decide +kernel
theorem dX7_order_0 : decode cX7_order 0 = .ok (.aload_n 0, 1) := by decide +kernel
theorem dX7_order_1 : decode cX7_order 1 = .ok (.invokevirtual 84, 3) := by decide +kernel
theorem dX7_order_4 : decode cX7_order 4 = .ok (.aload_n 0, 1) := by decide +kernel
theorem dX7_order_5 : decode cX7_order 5 = .ok (.getfield 51, 3) := by decide +kernel
theorem dX7_order_8 : decode cX7_order 8 = .ok (.sipush (-1001), 3) := by decide +kernel
theorem dX7_order_11 : decode cX7_order 11 = .ok (.if_icmp .eq 7, 3) := by decide +kernel
theorem dX7_order_14 : decode cX7_order 14 = .ok (.sipush (-1003), 3) := by decide +kernel
theorem dX7_order_17 : decode cX7_order 17 = .ok (.ireturn, 1) := by decide +kernel
theorem dX7_order_18 : decode cX7_order 18 = .ok (.aload_n 0, 1) := by decide +kernel
theorem dX7_order_19 : decode cX7_order 19 = .ok (.getfield 7, 3) := by decide +kernel
theorem dX7_order_22 : decode cX7_order 22 = .ok (.sipush 223, 3) := by decide +kernel
theorem dX7_order_25 : decode cX7_order 25 = .ok (.iaload, 1) := by decide +kernel
theorem dX7_order_26 : decode cX7_order 26 = .ok (.aload_n 0, 1) := by decide +kernel
theorem dX7_order_27 : decode cX7_order 27 = .ok (.getfield 68, 3) := by decide +kernel
theorem dX7_order_30 : decode cX7_order 30 = .ok (.iadd, 1) := by decide +kernel
theorem dX7_order_31 : decode cX7_order 31 = .ok (.bipush 10, 2) := by decide +kernel
theorem dX7_order_33 : decode cX7_order 33 = .ok (.if_icmp .le 7, 3) := by decide +kernel
theorem dX7_order_36 : decode cX7_order 36 = .ok (.sipush (-1004), 3) := by decide +kernel
theorem dX7_order_39 : decode cX7_order 39 = .ok (.ireturn, 1) := by decide +kernel
theorem dX7_order_40 : decode cX7_order 40 = .ok (.aload_n 0, 1) := by decide +kernel
theorem dX7_order_41 : decode cX7_order 41 = .ok (.invokevirtual 124, 3) := by decide +kernel
theorem dX7_order_44 : decode cX7_order 44 = .ok (.iconst 0, 1) := by decide +kernel
theorem dX7_order_45 : decode cX7_order 45 = .ok (.istore_n 1, 1) := by decide +kernel
theorem dX7_order_46 : decode cX7_order 46 = .ok (.iload_n 1, 1) := by decide +kernel
theorem dX7_order_47 : decode cX7_order 47 = .ok (.iconst 5, 1) := by decide +kernel
theorem dX7_order_48 : decode cX7_order 48 = .ok (.aload_n 0, 1) := by decide +kernel
theorem dX7_order_49 : decode cX7_order 49 = .ok (.getfield 68, 3) := by decide +kernel
theorem dX7_order_52 : decode cX7_order 52 = .ok (.imul, 1) := by decide +kernel
theorem dX7_order_53 : decode cX7_order 53 = .ok (.if_icmp .ge 36, 3) := by decide +kernel
theorem dX7_order_56 : decode cX7_order 56 = .ok (.aload_n 0, 1) := by decide +kernel
theorem dX7_order_57 : decode cX7_order 57 = .ok (.getfield 7, 3) := by decide +kernel
theorem dX7_order_60 : decode cX7_order 60 = .ok (.sipush 168, 3) := by decide +kernel
theorem dX7_order_63 : decode cX7_order 63 = .ok (.iconst 5, 1) := by decide +kernel
theorem dX7_order_64 : decode cX7_order 64 = .ok (.aload_n 0, 1) := by decide +kernel
theorem dX7_order_65 : decode cX7_order 65 = .ok (.getfield 7, 3) := by decide +kernel
theorem dX7_order_68 : decode cX7_order 68 = .ok (.sipush 223, 3) := by decide +kernel
theorem dX7_order_71 : decode cX7_order 71 = .ok (.iaload, 1) := by decide +kernel
theorem dX7_order_72 : decode cX7_order 72 = .ok (.imul, 1) := by decide +kernel
theorem dX7_order_73 : decode cX7_order 73 = .ok (.iadd, 1) := by decide +kernel
theorem dX7_order_74 : decode cX7_order 74 = .ok (.iload_n 1, 1) := by decide +kernel
theorem dX7_order_75 : decode cX7_order 75 = .ok (.iadd, 1) := by decide +kernel
theorem dX7_order_76 : decode cX7_order 76 = .ok (.aload_n 0, 1) := by decide +kernel
theorem dX7_order_77 : decode cX7_order 77 = .ok (.getfield 22, 3) := by decide +kernel
theorem dX7_order_80 : decode cX7_order 80 = .ok (.iload_n 1, 1) := by decide +kernel
theorem dX7_order_81 : decode cX7_order 81 = .ok (.iaload, 1) := by decide +kernel
theorem dX7_order_82 : decode cX7_order 82 = .ok (.iastore, 1) := by decide +kernel
theorem dX7_order_83 : decode cX7_order 83 = .ok (.iinc 1 1, 3) := by decide +kernel
theorem dX7_order_86 : decode cX7_order 86 = .ok (.goto (-40), 3) := by decide +kernel
theorem dX7_order_89 : decode cX7_order 89 = .ok (.aload_n 0, 1) := by decide +kernel
theorem dX7_order_90 : decode cX7_order 90 = .ok (.getfield 7, 3) := by decide +kernel
theorem dX7_order_93 : decode cX7_order 93 = .ok (.sipush 223, 3) := by decide +kernel
theorem dX7_order_96 : decode cX7_order 96 = .ok (.dup2, 1) := by decide +kernel
theorem dX7_order_97 : decode cX7_order 97 = .ok (.iaload, 1) := by decide +kernel
theorem dX7_order_98 : decode cX7_order 98 = .ok (.aload_n 0, 1) := by decide +kernel
theorem dX7_order_99 : decode cX7_order 99 = .ok (.getfield 68, 3) := by decide +kernel
theorem dX7_order_102 : decode cX7_order 102 = .ok (.iadd, 1) := by decide +kernel
theorem dX7_order_103 : decode cX7_order 103 = .ok (.iastore, 1) := by decide +kernel
theorem dX7_order_104 : decode cX7_order 104 = .ok (.aload_n 0, 1) := by decide +kernel
theorem dX7_order_105 : decode cX7_order 105 = .ok (.getfield 68, 3) := by decide +kernel
theorem dX7_order_108 : decode cX7_order 108 = .ok (.ireturn, 1) := by decide +kernel
theorem dX7_cancel_0 : decode cX7_cancel 0 = .ok (.iload_n 1, 1) := by decide +kernel
theorem dX7_cancel_1 : decode cX7_cancel 1 = .ok (.iconst 0, 1) := by decide +kernel
theorem dX7_cancel_2 : decode cX7_cancel 2 = .ok (.aload_n 0, 1) := by decide +kernel
theorem dX7_cancel_3 : decode cX7_cancel 3 = .ok (.getfield 7, 3) := by decide +kernel
theorem dX7_cancel_6 : decode cX7_cancel 6 = .ok (.sipush 223, 3) := by decide +kernel
theorem dX7_cancel_9 : decode cX7_cancel 9 = .ok (.iaload, 1) := by decide +kernel
theorem dX7_cancel_10 : decode cX7_cancel 10 = .ok (.iconst 1, 1) := by decide +kernel
theorem dX7_cancel_11 : decode cX7_cancel 11 = .ok (.isub, 1) := by decide +kernel
theorem dX7_cancel_12 : decode cX7_cancel 12 = .ok (.invokestatic 29, 3) := by decide +kernel
theorem dX7_cancel_15 : decode cX7_cancel 15 = .ok (.ifCond .ne 7, 3) := by decide +kernel
theorem dX7_cancel_18 : decode cX7_cancel 18 = .ok (.sipush (-1002), 3) := by decide +kernel
theorem dX7_cancel_21 : decode cX7_cancel 21 = .ok (.ireturn, 1) := by decide +kernel
theorem dX7_cancel_22 : decode cX7_cancel 22 = .ok (.aload_n 0, 1) := by decide +kernel
theorem dX7_cancel_23 : decode cX7_cancel 23 = .ok (.invokevirtual 124, 3) := by decide +kernel
theorem dX7_cancel_26 : decode cX7_cancel 26 = .ok (.aload_n 0, 1) := by decide +kernel
theorem dX7_cancel_27 : decode cX7_cancel 27 = .ok (.iload_n 1, 1) := by decide +kernel
theorem dX7_cancel_28 : decode cX7_cancel 28 = .ok (.invokevirtual 99, 3) := by decide +kernel
theorem dX7_cancel_31 : decode cX7_cancel 31 = .ok (.aload_n 0, 1) := by decide +kernel
theorem dX7_cancel_32 : decode cX7_cancel 32 = .ok (.getfield 7, 3) := by decide +kernel
theorem dX7_cancel_35 : decode cX7_cancel 35 = .ok (.sipush 223, 3) := by decide +kernel
theorem dX7_cancel_38 : decode cX7_cancel 38 = .ok (.iaload, 1) := by decide +kernel
theorem dX7_cancel_39 : decode cX7_cancel 39 = .ok (.ireturn, 1) := by decide +kernel
theorem dX7_pass_0 : decode cX7_pass 0 = .ok (.iload_n 1, 1) := by decide +kernel
theorem dX7_pass_1 : decode cX7_pass 1 = .ok (.iconst 1, 1) := by decide +kernel
theorem dX7_pass_2 : decode cX7_pass 2 = .ok (.sipush 200, 3) := by decide +kernel
theorem dX7_pass_5 : decode cX7_pass 5 = .ok (.invokestatic 29, 3) := by decide +kernel
theorem dX7_pass_8 : decode cX7_pass 8 = .ok (.ifCond .ne 7, 3) := by decide +kernel
theorem dX7_pass_11 : decode cX7_pass 11 = .ok (.sipush (-1002), 3) := by decide +kernel
theorem dX7_pass_14 : decode cX7_pass 14 = .ok (.ireturn, 1) := by decide +kernel
theorem dX7_pass_15 : decode cX7_pass 15 = .ok (.aload_n 0, 1) := by decide +kernel
theorem dX7_pass_16 : decode cX7_pass 16 = .ok (.getfield 7, 3) := by decide +kernel
theorem dX7_pass_19 : decode cX7_pass 19 = .ok (.sipush 222, 3) := by decide +kernel
theorem dX7_pass_22 : decode cX7_pass 22 = .ok (.iaload, 1) := by decide +kernel
theorem dX7_pass_23 : decode cX7_pass 23 = .ok (.iload_n 1, 1) := by decide +kernel
theorem dX7_pass_24 : decode cX7_pass 24 = .ok (.iadd, 1) := by decide +kernel
theorem dX7_pass_25 : decode cX7_pass 25 = .ok (.sipush 9999, 3) := by decide +kernel
theorem dX7_pass_28 : decode cX7_pass 28 = .ok (.if_icmp .le 7, 3) := by decide +kernel
theorem dX7_pass_31 : decode cX7_pass 31 = .ok (.sipush (-1004), 3) := by decide +kernel
theorem dX7_pass_34 : decode cX7_pass 34 = .ok (.ireturn, 1) := by decide +kernel
theorem dX7_pass_35 : decode cX7_pass 35 = .ok (.aload_n 0, 1) := by decide +kernel
theorem dX7_pass_36 : decode cX7_pass 36 = .ok (.invokevirtual 124, 3) := by decide +kernel
theorem dX7_pass_39 : decode cX7_pass 39 = .ok (.iconst 0, 1) := by decide +kernel
theorem dX7_pass_40 : decode cX7_pass 40 = .ok (.istore_n 2, 1) := by decide +kernel
theorem dX7_pass_41 : decode cX7_pass 41 = .ok (.iload_n 2, 1) := by decide +kernel
theorem dX7_pass_42 : decode cX7_pass 42 = .ok (.iload_n 1, 1) := by decide +kernel
theorem dX7_pass_43 : decode cX7_pass 43 = .ok (.if_icmp .ge 13, 3) := by decide +kernel
theorem dX7_pass_46 : decode cX7_pass 46 = .ok (.aload_n 0, 1) := by decide +kernel
theorem dX7_pass_47 : decode cX7_pass 47 = .ok (.invokevirtual 133, 3) := by decide +kernel
theorem dX7_pass_50 : decode cX7_pass 50 = .ok (.iinc 2 1, 3) := by decide +kernel
theorem dX7_pass_53 : decode cX7_pass 53 = .ok (.goto (-12), 3) := by decide +kernel
theorem dX7_pass_56 : decode cX7_pass 56 = .ok (.aload_n 0, 1) := by decide +kernel
theorem dX7_pass_57 : decode cX7_pass 57 = .ok (.getfield 7, 3) := by decide +kernel
theorem dX7_pass_60 : decode cX7_pass 60 = .ok (.sipush 219, 3) := by decide +kernel
theorem dX7_pass_63 : decode cX7_pass 63 = .ok (.iaload, 1) := by decide +kernel
theorem dX7_pass_64 : decode cX7_pass 64 = .ok (.ireturn, 1) := by decide +kernel
theorem dX7_scrape_0 : decode cX7_scrape 0 = .ok (.iload_n 1, 1) := by decide +kernel
theorem dX7_scrape_1 : decode cX7_scrape 1 = .ok (.invokestatic 105, 3) := by decide +kernel
theorem dX7_scrape_4 : decode cX7_scrape 4 = .ok (.ifCond .eq 20, 3) := by decide +kernel
theorem dX7_scrape_7 : decode cX7_scrape 7 = .ok (.iload_n 2, 1) := by decide +kernel
theorem dX7_scrape_8 : decode cX7_scrape 8 = .ok (.invokestatic 130, 3) := by decide +kernel
theorem dX7_scrape_11 : decode cX7_scrape 11 = .ok (.ifCond .eq 13, 3) := by decide +kernel
theorem dX7_scrape_14 : decode cX7_scrape 14 = .ok (.iload_n 3, 1) := by decide +kernel
theorem dX7_scrape_15 : decode cX7_scrape 15 = .ok (.iconst 1, 1) := by decide +kernel
theorem dX7_scrape_16 : decode cX7_scrape 16 = .ok (.bipush 60, 2) := by decide +kernel
theorem dX7_scrape_18 : decode cX7_scrape 18 = .ok (.invokestatic 29, 3) := by decide +kernel
theorem dX7_scrape_21 : decode cX7_scrape 21 = .ok (.ifCond .ne 7, 3) := by decide +kernel
theorem dX7_scrape_24 : decode cX7_scrape 24 = .ok (.sipush (-1002), 3) := by decide +kernel
theorem dX7_scrape_27 : decode cX7_scrape 27 = .ok (.ireturn, 1) := by decide +kernel
theorem dX7_scrape_28 : decode cX7_scrape 28 = .ok (.aload_n 0, 1) := by decide +kernel
theorem dX7_scrape_29 : decode cX7_scrape 29 = .ok (.invokevirtual 124, 3) := by decide +kernel
theorem dX7_scrape_32 : decode cX7_scrape 32 = .ok (.iload_n 3, 1) := by decide +kernel
theorem dX7_scrape_33 : decode cX7_scrape 33 = .ok (.aload_n 0, 1) := by decide +kernel
theorem dX7_scrape_34 : decode cX7_scrape 34 = .ok (.getfield 7, 3) := by decide +kernel
theorem dX7_scrape_37 : decode cX7_scrape 37 = .ok (.iconst 3, 1) := by decide +kernel
theorem dX7_scrape_38 : decode cX7_scrape 38 = .ok (.iload_n 1, 1) := by decide +kernel
theorem dX7_scrape_39 : decode cX7_scrape 39 = .ok (.imul, 1) := by decide +kernel
theorem dX7_scrape_40 : decode cX7_scrape 40 = .ok (.iload_n 2, 1) := by decide +kernel
theorem dX7_scrape_41 : decode cX7_scrape 41 = .ok (.iadd, 1) := by decide +kernel
theorem dX7_scrape_42 : decode cX7_scrape 42 = .ok (.iaload, 1) := by decide +kernel
theorem dX7_scrape_43 : decode cX7_scrape 43 = .ok (.invokestatic 102, 3) := by decide +kernel
theorem dX7_scrape_46 : decode cX7_scrape 46 = .ok (.istore 4, 2) := by decide +kernel
theorem dX7_scrape_48 : decode cX7_scrape 48 = .ok (.aload_n 0, 1) := by decide +kernel
theorem dX7_scrape_49 : decode cX7_scrape 49 = .ok (.getfield 7, 3) := by decide +kernel
theorem dX7_scrape_52 : decode cX7_scrape 52 = .ok (.iconst 3, 1) := by decide +kernel
theorem dX7_scrape_53 : decode cX7_scrape 53 = .ok (.iload_n 1, 1) := by decide +kernel
theorem dX7_scrape_54 : decode cX7_scrape 54 = .ok (.imul, 1) := by decide +kernel
theorem dX7_scrape_55 : decode cX7_scrape 55 = .ok (.iload_n 2, 1) := by decide +kernel
theorem dX7_scrape_56 : decode cX7_scrape 56 = .ok (.iadd, 1) := by decide +kernel
theorem dX7_scrape_57 : decode cX7_scrape 57 = .ok (.dup2, 1) := by decide +kernel
theorem dX7_scrape_58 : decode cX7_scrape 58 = .ok (.iaload, 1) := by decide +kernel
theorem dX7_scrape_59 : decode cX7_scrape 59 = .ok (.iload 4, 2) := by decide +kernel
theorem dX7_scrape_61 : decode cX7_scrape 61 = .ok (.isub, 1) := by decide +kernel
theorem dX7_scrape_62 : decode cX7_scrape 62 = .ok (.iastore, 1) := by decide +kernel
theorem dX7_scrape_63 : decode cX7_scrape 63 = .ok (.aload_n 0, 1) := by decide +kernel
theorem dX7_scrape_64 : decode cX7_scrape 64 = .ok (.getfield 7, 3) := by decide +kernel
theorem dX7_scrape_67 : decode cX7_scrape 67 = .ok (.sipush 227, 3) := by decide +kernel
theorem dX7_scrape_70 : decode cX7_scrape 70 = .ok (.dup2, 1) := by decide +kernel
theorem dX7_scrape_71 : decode cX7_scrape 71 = .ok (.iaload, 1) := by decide +kernel
theorem dX7_scrape_72 : decode cX7_scrape 72 = .ok (.iload 4, 2) := by decide +kernel
theorem dX7_scrape_74 : decode cX7_scrape 74 = .ok (.iadd, 1) := by decide +kernel
theorem dX7_scrape_75 : decode cX7_scrape 75 = .ok (.iastore, 1) := by decide +kernel
theorem dX7_scrape_76 : decode cX7_scrape 76 = .ok (.iload 4, 2) := by decide +kernel
theorem dX7_scrape_78 : decode cX7_scrape 78 = .ok (.ireturn, 1) := by decide +kernel
theorem dX7_wagon_0 : decode cX7_wagon 0 = .ok (.aload_n 0, 1) := by decide +kernel
theorem dX7_wagon_1 : decode cX7_wagon 1 = .ok (.iload_n 1, 1) := by decide +kernel
theorem dX7_wagon_2 : decode cX7_wagon 2 = .ok (.invokevirtual 86, 3) := by decide +kernel
theorem dX7_wagon_5 : decode cX7_wagon 5 = .ok (.ifCond .ne 7, 3) := by decide +kernel
theorem dX7_wagon_8 : decode cX7_wagon 8 = .ok (.sipush (-1002), 3) := by decide +kernel
theorem dX7_wagon_11 : decode cX7_wagon 11 = .ok (.ireturn, 1) := by decide +kernel
theorem dX7_wagon_12 : decode cX7_wagon 12 = .ok (.iload_n 2, 1) := by decide +kernel
theorem dX7_wagon_13 : decode cX7_wagon 13 = .ok (.tableswitch 125 0 4 #[35, 42, 55, 76, 118], 35) := by decide +kernel
theorem dX7_wagon_48 : decode cX7_wagon 48 = .ok (.aload_n 0, 1) := by decide +kernel
theorem dX7_wagon_49 : decode cX7_wagon 49 = .ok (.iload_n 1, 1) := by decide +kernel
theorem dX7_wagon_50 : decode cX7_wagon 50 = .ok (.iconst 0, 1) := by decide +kernel
theorem dX7_wagon_51 : decode cX7_wagon 51 = .ok (.invokevirtual 90, 3) := by decide +kernel
theorem dX7_wagon_54 : decode cX7_wagon 54 = .ok (.ireturn, 1) := by decide +kernel
theorem dX7_wagon_55 : decode cX7_wagon 55 = .ok (.aload_n 0, 1) := by decide +kernel
theorem dX7_wagon_56 : decode cX7_wagon 56 = .ok (.getfield 7, 3) := by decide +kernel
theorem dX7_wagon_59 : decode cX7_wagon 59 = .ok (.sipush 219, 3) := by decide +kernel
theorem dX7_wagon_62 : decode cX7_wagon 62 = .ok (.iaload, 1) := by decide +kernel
theorem dX7_wagon_63 : decode cX7_wagon 63 = .ok (.iconst 4, 1) := by decide +kernel
theorem dX7_wagon_64 : decode cX7_wagon 64 = .ok (.iload_n 1, 1) := by decide +kernel
theorem dX7_wagon_65 : decode cX7_wagon 65 = .ok (.imul, 1) := by decide +kernel
theorem dX7_wagon_66 : decode cX7_wagon 66 = .ok (.isub, 1) := by decide +kernel
theorem dX7_wagon_67 : decode cX7_wagon 67 = .ok (.ireturn, 1) := by decide +kernel
theorem dX7_wagon_68 : decode cX7_wagon 68 = .ok (.aload_n 0, 1) := by decide +kernel
theorem dX7_wagon_69 : decode cX7_wagon 69 = .ok (.iload_n 1, 1) := by decide +kernel
theorem dX7_wagon_70 : decode cX7_wagon 70 = .ok (.iconst 2, 1) := by decide +kernel
theorem dX7_wagon_71 : decode cX7_wagon 71 = .ok (.invokevirtual 90, 3) := by decide +kernel
theorem dX7_wagon_74 : decode cX7_wagon 74 = .ok (.aload_n 0, 1) := by decide +kernel
theorem dX7_wagon_75 : decode cX7_wagon 75 = .ok (.iload_n 1, 1) := by decide +kernel
theorem dX7_wagon_76 : decode cX7_wagon 76 = .ok (.iconst 3, 1) := by decide +kernel
theorem dX7_wagon_77 : decode cX7_wagon 77 = .ok (.invokevirtual 90, 3) := by decide +kernel
theorem dX7_wagon_80 : decode cX7_wagon 80 = .ok (.iadd, 1) := by decide +kernel
theorem dX7_wagon_81 : decode cX7_wagon 81 = .ok (.aload_n 0, 1) := by decide +kernel
theorem dX7_wagon_82 : decode cX7_wagon 82 = .ok (.iload_n 1, 1) := by decide +kernel
theorem dX7_wagon_83 : decode cX7_wagon 83 = .ok (.iconst 4, 1) := by decide +kernel
theorem dX7_wagon_84 : decode cX7_wagon 84 = .ok (.invokevirtual 90, 3) := by decide +kernel
theorem dX7_wagon_87 : decode cX7_wagon 87 = .ok (.iadd, 1) := by decide +kernel
theorem dX7_wagon_88 : decode cX7_wagon 88 = .ok (.ireturn, 1) := by decide +kernel
theorem dX7_wagon_89 : decode cX7_wagon 89 = .ok (.iconst 0, 1) := by decide +kernel
theorem dX7_wagon_90 : decode cX7_wagon 90 = .ok (.istore_n 3, 1) := by decide +kernel
theorem dX7_wagon_91 : decode cX7_wagon 91 = .ok (.iconst 0, 1) := by decide +kernel
theorem dX7_wagon_92 : decode cX7_wagon 92 = .ok (.istore 4, 2) := by decide +kernel
theorem dX7_wagon_94 : decode cX7_wagon 94 = .ok (.iload 4, 2) := by decide +kernel
theorem dX7_wagon_96 : decode cX7_wagon 96 = .ok (.iconst 3, 1) := by decide +kernel
theorem dX7_wagon_97 : decode cX7_wagon 97 = .ok (.if_icmp .ge 32, 3) := by decide +kernel
theorem dX7_wagon_100 : decode cX7_wagon 100 = .ok (.iload_n 3, 1) := by decide +kernel
theorem dX7_wagon_101 : decode cX7_wagon 101 = .ok (.aload_n 0, 1) := by decide +kernel
theorem dX7_wagon_102 : decode cX7_wagon 102 = .ok (.iload_n 1, 1) := by decide +kernel
theorem dX7_wagon_103 : decode cX7_wagon 103 = .ok (.iconst 5, 1) := by decide +kernel
theorem dX7_wagon_104 : decode cX7_wagon 104 = .ok (.iload 4, 2) := by decide +kernel
theorem dX7_wagon_106 : decode cX7_wagon 106 = .ok (.iadd, 1) := by decide +kernel
theorem dX7_wagon_107 : decode cX7_wagon 107 = .ok (.invokevirtual 90, 3) := by decide +kernel
theorem dX7_wagon_110 : decode cX7_wagon 110 = .ok (.sipush (-1001), 3) := by decide +kernel
theorem dX7_wagon_113 : decode cX7_wagon 113 = .ok (.if_icmp .ne 7, 3) := by decide +kernel
theorem dX7_wagon_116 : decode cX7_wagon 116 = .ok (.iconst 0, 1) := by decide +kernel
theorem dX7_wagon_117 : decode cX7_wagon 117 = .ok (.goto 4, 3) := by decide +kernel
theorem dX7_wagon_120 : decode cX7_wagon 120 = .ok (.iconst 1, 1) := by decide +kernel
theorem dX7_wagon_121 : decode cX7_wagon 121 = .ok (.iadd, 1) := by decide +kernel
theorem dX7_wagon_122 : decode cX7_wagon 122 = .ok (.istore_n 3, 1) := by decide +kernel
theorem dX7_wagon_123 : decode cX7_wagon 123 = .ok (.iinc 4 1, 3) := by decide +kernel
theorem dX7_wagon_126 : decode cX7_wagon 126 = .ok (.goto (-32), 3) := by decide +kernel
theorem dX7_wagon_129 : decode cX7_wagon 129 = .ok (.iload_n 3, 1) := by decide +kernel
theorem dX7_wagon_130 : decode cX7_wagon 130 = .ok (.ireturn, 1) := by decide +kernel
theorem dX7_wagon_131 : decode cX7_wagon 131 = .ok (.aload_n 0, 1) := by decide +kernel
theorem dX7_wagon_132 : decode cX7_wagon 132 = .ok (.iload_n 1, 1) := by decide +kernel
theorem dX7_wagon_133 : decode cX7_wagon 133 = .ok (.iconst 1, 1) := by decide +kernel
theorem dX7_wagon_134 : decode cX7_wagon 134 = .ok (.invokevirtual 90, 3) := by decide +kernel
theorem dX7_wagon_137 : decode cX7_wagon 137 = .ok (.ireturn, 1) := by decide +kernel
theorem dX7_wagon_138 : decode cX7_wagon 138 = .ok (.sipush (-1002), 3) := by decide +kernel
theorem dX7_wagon_141 : decode cX7_wagon 141 = .ok (.ireturn, 1) := by decide +kernel
theorem dX7_doorOf_0 : decode cX7_doorOf 0 = .ok (.aload_n 0, 1) := by decide +kernel
theorem dX7_doorOf_1 : decode cX7_doorOf 1 = .ok (.iload_n 1, 1) := by decide +kernel
theorem dX7_doorOf_2 : decode cX7_doorOf 2 = .ok (.invokevirtual 86, 3) := by decide +kernel
theorem dX7_doorOf_5 : decode cX7_doorOf 5 = .ok (.ifCond .eq 19, 3) := by decide +kernel
theorem dX7_doorOf_8 : decode cX7_doorOf 8 = .ok (.iload_n 2, 1) := by decide +kernel
theorem dX7_doorOf_9 : decode cX7_doorOf 9 = .ok (.invokestatic 130, 3) := by decide +kernel
theorem dX7_doorOf_12 : decode cX7_doorOf 12 = .ok (.ifCond .eq 12, 3) := by decide +kernel
theorem dX7_doorOf_15 : decode cX7_doorOf 15 = .ok (.iload_n 3, 1) := by decide +kernel
theorem dX7_doorOf_16 : decode cX7_doorOf 16 = .ok (.iconst 0, 1) := by decide +kernel
theorem dX7_doorOf_17 : decode cX7_doorOf 17 = .ok (.iconst 1, 1) := by decide +kernel
theorem dX7_doorOf_18 : decode cX7_doorOf 18 = .ok (.invokestatic 29, 3) := by decide +kernel
theorem dX7_doorOf_21 : decode cX7_doorOf 21 = .ok (.ifCond .ne 7, 3) := by decide +kernel
theorem dX7_doorOf_24 : decode cX7_doorOf 24 = .ok (.sipush (-1002), 3) := by decide +kernel
theorem dX7_doorOf_27 : decode cX7_doorOf 27 = .ok (.ireturn, 1) := by decide +kernel
theorem dX7_doorOf_28 : decode cX7_doorOf 28 = .ok (.aload_n 0, 1) := by decide +kernel
theorem dX7_doorOf_29 : decode cX7_doorOf 29 = .ok (.iload_n 1, 1) := by decide +kernel
theorem dX7_doorOf_30 : decode cX7_doorOf 30 = .ok (.iload_n 3, 1) := by decide +kernel
theorem dX7_doorOf_31 : decode cX7_doorOf 31 = .ok (.ifCond .ne 7, 3) := by decide +kernel
theorem dX7_doorOf_34 : decode cX7_doorOf 34 = .ok (.iconst 2, 1) := by decide +kernel
theorem dX7_doorOf_35 : decode cX7_doorOf 35 = .ok (.goto 4, 3) := by decide +kernel
theorem dX7_doorOf_38 : decode cX7_doorOf 38 = .ok (.iconst 5, 1) := by decide +kernel
theorem dX7_doorOf_39 : decode cX7_doorOf 39 = .ok (.iload_n 2, 1) := by decide +kernel
theorem dX7_doorOf_40 : decode cX7_doorOf 40 = .ok (.iadd, 1) := by decide +kernel
theorem dX7_doorOf_41 : decode cX7_doorOf 41 = .ok (.invokevirtual 90, 3) := by decide +kernel
theorem dX7_doorOf_44 : decode cX7_doorOf 44 = .ok (.ireturn, 1) := by decide +kernel
theorem dX7_height_0 : decode cX7_height 0 = .ok (.iload_n 1, 1) := by decide +kernel
theorem dX7_height_1 : decode cX7_height 1 = .ok (.invokestatic 105, 3) := by decide +kernel
theorem dX7_height_4 : decode cX7_height 4 = .ok (.ifCond .eq 23, 3) := by decide +kernel
theorem dX7_height_7 : decode cX7_height 7 = .ok (.iload_n 2, 1) := by decide +kernel
theorem dX7_height_8 : decode cX7_height 8 = .ok (.invokestatic 130, 3) := by decide +kernel
theorem dX7_height_11 : decode cX7_height 11 = .ok (.ifCond .eq 16, 3) := by decide +kernel
theorem dX7_height_14 : decode cX7_height 14 = .ok (.aload_n 0, 1) := by decide +kernel
theorem dX7_height_15 : decode cX7_height 15 = .ok (.getfield 7, 3) := by decide +kernel
theorem dX7_height_18 : decode cX7_height 18 = .ok (.iconst 3, 1) := by decide +kernel
theorem dX7_height_19 : decode cX7_height 19 = .ok (.iload_n 1, 1) := by decide +kernel
theorem dX7_height_20 : decode cX7_height 20 = .ok (.imul, 1) := by decide +kernel
theorem dX7_height_21 : decode cX7_height 21 = .ok (.iload_n 2, 1) := by decide +kernel
theorem dX7_height_22 : decode cX7_height 22 = .ok (.iadd, 1) := by decide +kernel
theorem dX7_height_23 : decode cX7_height 23 = .ok (.iaload, 1) := by decide +kernel
theorem dX7_height_24 : decode cX7_height 24 = .ok (.goto 6, 3) := by decide +kernel
theorem dX7_height_27 : decode cX7_height 27 = .ok (.sipush (-1002), 3) := by decide +kernel
theorem dX7_height_30 : decode cX7_height 30 = .ok (.ireturn, 1) := by decide +kernel
theorem dX7_sum_0 : decode cX7_sum 0 = .ok (.iconst 0, 1) := by decide +kernel
theorem dX7_sum_1 : decode cX7_sum 1 = .ok (.istore_n 2, 1) := by decide +kernel
theorem dX7_sum_2 : decode cX7_sum 2 = .ok (.iconst 0, 1) := by decide +kernel
theorem dX7_sum_3 : decode cX7_sum 3 = .ok (.istore_n 3, 1) := by decide +kernel
theorem dX7_sum_4 : decode cX7_sum 4 = .ok (.iload_n 3, 1) := by decide +kernel
theorem dX7_sum_5 : decode cX7_sum 5 = .ok (.bipush 40, 2) := by decide +kernel
theorem dX7_sum_7 : decode cX7_sum 7 = .ok (.if_icmp .ge 22, 3) := by decide +kernel
theorem dX7_sum_10 : decode cX7_sum 10 = .ok (.iload_n 2, 1) := by decide +kernel
theorem dX7_sum_11 : decode cX7_sum 11 = .ok (.aload_n 0, 1) := by decide +kernel
theorem dX7_sum_12 : decode cX7_sum 12 = .ok (.getfield 7, 3) := by decide +kernel
theorem dX7_sum_15 : decode cX7_sum 15 = .ok (.iconst 3, 1) := by decide +kernel
theorem dX7_sum_16 : decode cX7_sum 16 = .ok (.iload_n 3, 1) := by decide +kernel
theorem dX7_sum_17 : decode cX7_sum 17 = .ok (.imul, 1) := by decide +kernel
theorem dX7_sum_18 : decode cX7_sum 18 = .ok (.iload_n 1, 1) := by decide +kernel
theorem dX7_sum_19 : decode cX7_sum 19 = .ok (.iadd, 1) := by decide +kernel
theorem dX7_sum_20 : decode cX7_sum 20 = .ok (.iaload, 1) := by decide +kernel
theorem dX7_sum_21 : decode cX7_sum 21 = .ok (.iadd, 1) := by decide +kernel
theorem dX7_sum_22 : decode cX7_sum 22 = .ok (.istore_n 2, 1) := by decide +kernel
theorem dX7_sum_23 : decode cX7_sum 23 = .ok (.iinc 3 1, 3) := by decide +kernel
theorem dX7_sum_26 : decode cX7_sum 26 = .ok (.goto (-22), 3) := by decide +kernel
theorem dX7_sum_29 : decode cX7_sum 29 = .ok (.iload_n 2, 1) := by decide +kernel
theorem dX7_sum_30 : decode cX7_sum 30 = .ok (.ireturn, 1) := by decide +kernel
theorem dX7_highest_0 : decode cX7_highest 0 = .ok (.iconst 0, 1) := by decide +kernel
theorem dX7_highest_1 : decode cX7_highest 1 = .ok (.istore_n 2, 1) := by decide +kernel
theorem dX7_highest_2 : decode cX7_highest 2 = .ok (.iconst 1, 1) := by decide +kernel
theorem dX7_highest_3 : decode cX7_highest 3 = .ok (.istore_n 3, 1) := by decide +kernel
theorem dX7_highest_4 : decode cX7_highest 4 = .ok (.iload_n 3, 1) := by decide +kernel
theorem dX7_highest_5 : decode cX7_highest 5 = .ok (.bipush 40, 2) := by decide +kernel
theorem dX7_highest_7 : decode cX7_highest 7 = .ok (.if_icmp .ge 38, 3) := by decide +kernel
theorem dX7_highest_10 : decode cX7_highest 10 = .ok (.aload_n 0, 1) := by decide +kernel
theorem dX7_highest_11 : decode cX7_highest 11 = .ok (.getfield 7, 3) := by decide +kernel
theorem dX7_highest_14 : decode cX7_highest 14 = .ok (.iconst 3, 1) := by decide +kernel
theorem dX7_highest_15 : decode cX7_highest 15 = .ok (.iload_n 3, 1) := by decide +kernel
theorem dX7_highest_16 : decode cX7_highest 16 = .ok (.imul, 1) := by decide +kernel
theorem dX7_highest_17 : decode cX7_highest 17 = .ok (.iload_n 1, 1) := by decide +kernel
theorem dX7_highest_18 : decode cX7_highest 18 = .ok (.iadd, 1) := by decide +kernel
theorem dX7_highest_19 : decode cX7_highest 19 = .ok (.iaload, 1) := by decide +kernel
theorem dX7_highest_20 : decode cX7_highest 20 = .ok (.aload_n 0, 1) := by decide +kernel
theorem dX7_highest_21 : decode cX7_highest 21 = .ok (.getfield 7, 3) := by decide +kernel
theorem dX7_highest_24 : decode cX7_highest 24 = .ok (.iconst 3, 1) := by decide +kernel
theorem dX7_highest_25 : decode cX7_highest 25 = .ok (.iload_n 2, 1) := by decide +kernel
theorem dX7_highest_26 : decode cX7_highest 26 = .ok (.imul, 1) := by decide +kernel
theorem dX7_highest_27 : decode cX7_highest 27 = .ok (.iload_n 1, 1) := by decide +kernel
theorem dX7_highest_28 : decode cX7_highest 28 = .ok (.iadd, 1) := by decide +kernel
theorem dX7_highest_29 : decode cX7_highest 29 = .ok (.iaload, 1) := by decide +kernel
theorem dX7_highest_30 : decode cX7_highest 30 = .ok (.if_icmp .le 7, 3) := by decide +kernel
theorem dX7_highest_33 : decode cX7_highest 33 = .ok (.iload_n 3, 1) := by decide +kernel
theorem dX7_highest_34 : decode cX7_highest 34 = .ok (.goto 4, 3) := by decide +kernel
theorem dX7_highest_37 : decode cX7_highest 37 = .ok (.iload_n 2, 1) := by decide +kernel
theorem dX7_highest_38 : decode cX7_highest 38 = .ok (.istore_n 2, 1) := by decide +kernel
theorem dX7_highest_39 : decode cX7_highest 39 = .ok (.iinc 3 1, 3) := by decide +kernel
theorem dX7_highest_42 : decode cX7_highest 42 = .ok (.goto (-38), 3) := by decide +kernel
theorem dX7_highest_45 : decode cX7_highest 45 = .ok (.iload_n 2, 1) := by decide +kernel
theorem dX7_highest_46 : decode cX7_highest 46 = .ok (.ireturn, 1) := by decide +kernel
theorem dX7_row_0 : decode cX7_row 0 = .ok (.iconst 0, 1) := by decide +kernel
theorem dX7_row_1 : decode cX7_row 1 = .ok (.istore_n 3, 1) := by decide +kernel
theorem dX7_row_2 : decode cX7_row 2 = .ok (.iconst 0, 1) := by decide +kernel
theorem dX7_row_3 : decode cX7_row 3 = .ok (.istore 4, 2) := by decide +kernel
theorem dX7_row_5 : decode cX7_row 5 = .ok (.iconst 0, 1) := by decide +kernel
theorem dX7_row_6 : decode cX7_row 6 = .ok (.istore 5, 2) := by decide +kernel
theorem dX7_row_8 : decode cX7_row 8 = .ok (.iconst 0, 1) := by decide +kernel
theorem dX7_row_9 : decode cX7_row 9 = .ok (.istore 6, 2) := by decide +kernel
theorem dX7_row_11 : decode cX7_row 11 = .ok (.iload 6, 2) := by decide +kernel
theorem dX7_row_13 : decode cX7_row 13 = .ok (.bipush 40, 2) := by decide +kernel
theorem dX7_row_15 : decode cX7_row 15 = .ok (.if_icmp .ge 82, 3) := by decide +kernel
theorem dX7_row_18 : decode cX7_row 18 = .ok (.aload_n 0, 1) := by decide +kernel
theorem dX7_row_19 : decode cX7_row 19 = .ok (.getfield 7, 3) := by decide +kernel
theorem dX7_row_22 : decode cX7_row 22 = .ok (.iconst 3, 1) := by decide +kernel
theorem dX7_row_23 : decode cX7_row 23 = .ok (.iload 6, 2) := by decide +kernel
theorem dX7_row_25 : decode cX7_row 25 = .ok (.imul, 1) := by decide +kernel
theorem dX7_row_26 : decode cX7_row 26 = .ok (.iload_n 1, 1) := by decide +kernel
theorem dX7_row_27 : decode cX7_row 27 = .ok (.iadd, 1) := by decide +kernel
theorem dX7_row_28 : decode cX7_row 28 = .ok (.iaload, 1) := by decide +kernel
theorem dX7_row_29 : decode cX7_row 29 = .ok (.aload_n 0, 1) := by decide +kernel
theorem dX7_row_30 : decode cX7_row 30 = .ok (.getfield 7, 3) := by decide +kernel
theorem dX7_row_33 : decode cX7_row 33 = .ok (.sipush 232, 3) := by decide +kernel
theorem dX7_row_36 : decode cX7_row 36 = .ok (.iaload, 1) := by decide +kernel
theorem dX7_row_37 : decode cX7_row 37 = .ok (.if_icmp .lt 7, 3) := by decide +kernel
theorem dX7_row_40 : decode cX7_row 40 = .ok (.iconst 1, 1) := by decide +kernel
theorem dX7_row_41 : decode cX7_row 41 = .ok (.goto 4, 3) := by decide +kernel
theorem dX7_row_44 : decode cX7_row 44 = .ok (.iconst 0, 1) := by decide +kernel
theorem dX7_row_45 : decode cX7_row 45 = .ok (.istore 7, 2) := by decide +kernel
theorem dX7_row_47 : decode cX7_row 47 = .ok (.iload_n 3, 1) := by decide +kernel
theorem dX7_row_48 : decode cX7_row 48 = .ok (.iload 7, 2) := by decide +kernel
theorem dX7_row_50 : decode cX7_row 50 = .ok (.ifCond .eq 7, 3) := by decide +kernel
theorem dX7_row_53 : decode cX7_row 53 = .ok (.iconst 1, 1) := by decide +kernel
theorem dX7_row_54 : decode cX7_row 54 = .ok (.goto 4, 3) := by decide +kernel
theorem dX7_row_57 : decode cX7_row 57 = .ok (.iconst 0, 1) := by decide +kernel
theorem dX7_row_58 : decode cX7_row 58 = .ok (.iadd, 1) := by decide +kernel
theorem dX7_row_59 : decode cX7_row 59 = .ok (.istore_n 3, 1) := by decide +kernel
theorem dX7_row_60 : decode cX7_row 60 = .ok (.iload 7, 2) := by decide +kernel
theorem dX7_row_62 : decode cX7_row 62 = .ok (.ifCond .eq 10, 3) := by decide +kernel
theorem dX7_row_65 : decode cX7_row 65 = .ok (.iload 4, 2) := by decide +kernel
theorem dX7_row_67 : decode cX7_row 67 = .ok (.iconst 1, 1) := by decide +kernel
theorem dX7_row_68 : decode cX7_row 68 = .ok (.iadd, 1) := by decide +kernel
theorem dX7_row_69 : decode cX7_row 69 = .ok (.goto 4, 3) := by decide +kernel
theorem dX7_row_72 : decode cX7_row 72 = .ok (.iconst 0, 1) := by decide +kernel
theorem dX7_row_73 : decode cX7_row 73 = .ok (.istore 4, 2) := by decide +kernel
theorem dX7_row_75 : decode cX7_row 75 = .ok (.iload 4, 2) := by decide +kernel
theorem dX7_row_77 : decode cX7_row 77 = .ok (.iload 5, 2) := by decide +kernel
theorem dX7_row_79 : decode cX7_row 79 = .ok (.if_icmp .le 8, 3) := by decide +kernel
theorem dX7_row_82 : decode cX7_row 82 = .ok (.iload 4, 2) := by decide +kernel
theorem dX7_row_84 : decode cX7_row 84 = .ok (.goto 5, 3) := by decide +kernel
theorem dX7_row_87 : decode cX7_row 87 = .ok (.iload 5, 2) := by decide +kernel
theorem dX7_row_89 : decode cX7_row 89 = .ok (.istore 5, 2) := by decide +kernel
theorem dX7_row_91 : decode cX7_row 91 = .ok (.iinc 6 1, 3) := by decide +kernel
theorem dX7_row_94 : decode cX7_row 94 = .ok (.goto (-83), 3) := by decide +kernel
theorem dX7_row_97 : decode cX7_row 97 = .ok (.iload_n 2, 1) := by decide +kernel
theorem dX7_row_98 : decode cX7_row 98 = .ok (.ifCond .eq 8, 3) := by decide +kernel
theorem dX7_row_101 : decode cX7_row 101 = .ok (.iload 5, 2) := by decide +kernel
theorem dX7_row_103 : decode cX7_row 103 = .ok (.goto 4, 3) := by decide +kernel
theorem dX7_row_106 : decode cX7_row 106 = .ok (.iload_n 3, 1) := by decide +kernel
theorem dX7_row_107 : decode cX7_row 107 = .ok (.ireturn, 1) := by decide +kernel
theorem dX7_steepest_0 : decode cX7_steepest 0 = .ok (.iconst 0, 1) := by decide +kernel
theorem dX7_steepest_1 : decode cX7_steepest 1 = .ok (.istore_n 2, 1) := by decide +kernel
theorem dX7_steepest_2 : decode cX7_steepest 2 = .ok (.iconst 0, 1) := by decide +kernel
theorem dX7_steepest_3 : decode cX7_steepest 3 = .ok (.istore_n 3, 1) := by decide +kernel
theorem dX7_steepest_4 : decode cX7_steepest 4 = .ok (.iload_n 3, 1) := by decide +kernel
theorem dX7_steepest_5 : decode cX7_steepest 5 = .ok (.iconst 1, 1) := by decide +kernel
theorem dX7_steepest_6 : decode cX7_steepest 6 = .ok (.iadd, 1) := by decide +kernel
theorem dX7_steepest_7 : decode cX7_steepest 7 = .ok (.bipush 40, 2) := by decide +kernel
theorem dX7_steepest_9 : decode cX7_steepest 9 = .ok (.if_icmp .ge 62, 3) := by decide +kernel
theorem dX7_steepest_12 : decode cX7_steepest 12 = .ok (.aload_n 0, 1) := by decide +kernel
theorem dX7_steepest_13 : decode cX7_steepest 13 = .ok (.getfield 7, 3) := by decide +kernel
theorem dX7_steepest_16 : decode cX7_steepest 16 = .ok (.iconst 3, 1) := by decide +kernel
theorem dX7_steepest_17 : decode cX7_steepest 17 = .ok (.iload_n 3, 1) := by decide +kernel
theorem dX7_steepest_18 : decode cX7_steepest 18 = .ok (.imul, 1) := by decide +kernel
theorem dX7_steepest_19 : decode cX7_steepest 19 = .ok (.iload_n 1, 1) := by decide +kernel
theorem dX7_steepest_20 : decode cX7_steepest 20 = .ok (.iadd, 1) := by decide +kernel
theorem dX7_steepest_21 : decode cX7_steepest 21 = .ok (.iaload, 1) := by decide +kernel
theorem dX7_steepest_22 : decode cX7_steepest 22 = .ok (.aload_n 0, 1) := by decide +kernel
theorem dX7_steepest_23 : decode cX7_steepest 23 = .ok (.getfield 7, 3) := by decide +kernel
theorem dX7_steepest_26 : decode cX7_steepest 26 = .ok (.iconst 3, 1) := by decide +kernel
theorem dX7_steepest_27 : decode cX7_steepest 27 = .ok (.iload_n 3, 1) := by decide +kernel
theorem dX7_steepest_28 : decode cX7_steepest 28 = .ok (.imul, 1) := by decide +kernel
theorem dX7_steepest_29 : decode cX7_steepest 29 = .ok (.iconst 3, 1) := by decide +kernel
theorem dX7_steepest_30 : decode cX7_steepest 30 = .ok (.iadd, 1) := by decide +kernel
theorem dX7_steepest_31 : decode cX7_steepest 31 = .ok (.iload_n 1, 1) := by decide +kernel
theorem dX7_steepest_32 : decode cX7_steepest 32 = .ok (.iadd, 1) := by decide +kernel
theorem dX7_steepest_33 : decode cX7_steepest 33 = .ok (.iaload, 1) := by decide +kernel
theorem dX7_steepest_34 : decode cX7_steepest 34 = .ok (.isub, 1) := by decide +kernel
theorem dX7_steepest_35 : decode cX7_steepest 35 = .ok (.istore 4, 2) := by decide +kernel
theorem dX7_steepest_37 : decode cX7_steepest 37 = .ok (.iload 4, 2) := by decide +kernel
theorem dX7_steepest_39 : decode cX7_steepest 39 = .ok (.ifCond .ge 9, 3) := by decide +kernel
theorem dX7_steepest_42 : decode cX7_steepest 42 = .ok (.iload 4, 2) := by decide +kernel
theorem dX7_steepest_44 : decode cX7_steepest 44 = .ok (.ineg, 1) := by decide +kernel
theorem dX7_steepest_45 : decode cX7_steepest 45 = .ok (.goto 5, 3) := by decide +kernel
theorem dX7_steepest_48 : decode cX7_steepest 48 = .ok (.iload 4, 2) := by decide +kernel
theorem dX7_steepest_50 : decode cX7_steepest 50 = .ok (.istore 4, 2) := by decide +kernel
theorem dX7_steepest_52 : decode cX7_steepest 52 = .ok (.iload 4, 2) := by decide +kernel
theorem dX7_steepest_54 : decode cX7_steepest 54 = .ok (.iload_n 2, 1) := by decide +kernel
theorem dX7_steepest_55 : decode cX7_steepest 55 = .ok (.if_icmp .le 8, 3) := by decide +kernel
theorem dX7_steepest_58 : decode cX7_steepest 58 = .ok (.iload 4, 2) := by decide +kernel
theorem dX7_steepest_60 : decode cX7_steepest 60 = .ok (.goto 4, 3) := by decide +kernel
theorem dX7_steepest_63 : decode cX7_steepest 63 = .ok (.iload_n 2, 1) := by decide +kernel
theorem dX7_steepest_64 : decode cX7_steepest 64 = .ok (.istore_n 2, 1) := by decide +kernel
theorem dX7_steepest_65 : decode cX7_steepest 65 = .ok (.iinc 3 1, 3) := by decide +kernel
theorem dX7_steepest_68 : decode cX7_steepest 68 = .ok (.goto (-64), 3) := by decide +kernel
theorem dX7_steepest_71 : decode cX7_steepest 71 = .ok (.iload_n 2, 1) := by decide +kernel
theorem dX7_steepest_72 : decode cX7_steepest 72 = .ok (.ireturn, 1) := by decide +kernel
theorem dX7_profile_0 : decode cX7_profile 0 = .ok (.iload_n 1, 1) := by decide +kernel
theorem dX7_profile_1 : decode cX7_profile 1 = .ok (.invokestatic 130, 3) := by decide +kernel
theorem dX7_profile_4 : decode cX7_profile 4 = .ok (.ifCond .ne 7, 3) := by decide +kernel
theorem dX7_profile_7 : decode cX7_profile 7 = .ok (.sipush (-1002), 3) := by decide +kernel
theorem dX7_profile_10 : decode cX7_profile 10 = .ok (.ireturn, 1) := by decide +kernel
theorem dX7_profile_11 : decode cX7_profile 11 = .ok (.iload_n 2, 1) := by decide +kernel
theorem dX7_profile_12 : decode cX7_profile 12 = .ok (.tableswitch 87 0 5 #[40, 46, 61, 67, 74, 81], 40) := by decide +kernel
theorem dX7_profile_52 : decode cX7_profile 52 = .ok (.aload_n 0, 1) := by decide +kernel
theorem dX7_profile_53 : decode cX7_profile 53 = .ok (.iload_n 1, 1) := by decide +kernel
theorem dX7_profile_54 : decode cX7_profile 54 = .ok (.invokevirtual 136, 3) := by decide +kernel
theorem dX7_profile_57 : decode cX7_profile 57 = .ok (.ireturn, 1) := by decide +kernel
theorem dX7_profile_58 : decode cX7_profile 58 = .ok (.aload_n 0, 1) := by decide +kernel
theorem dX7_profile_59 : decode cX7_profile 59 = .ok (.getfield 7, 3) := by decide +kernel
theorem dX7_profile_62 : decode cX7_profile 62 = .ok (.iconst 3, 1) := by decide +kernel
theorem dX7_profile_63 : decode cX7_profile 63 = .ok (.aload_n 0, 1) := by decide +kernel
theorem dX7_profile_64 : decode cX7_profile 64 = .ok (.iload_n 1, 1) := by decide +kernel
theorem dX7_profile_65 : decode cX7_profile 65 = .ok (.invokevirtual 140, 3) := by decide +kernel
theorem dX7_profile_68 : decode cX7_profile 68 = .ok (.imul, 1) := by decide +kernel
theorem dX7_profile_69 : decode cX7_profile 69 = .ok (.iload_n 1, 1) := by decide +kernel
theorem dX7_profile_70 : decode cX7_profile 70 = .ok (.iadd, 1) := by decide +kernel
theorem dX7_profile_71 : decode cX7_profile 71 = .ok (.iaload, 1) := by decide +kernel
theorem dX7_profile_72 : decode cX7_profile 72 = .ok (.ireturn, 1) := by decide +kernel
theorem dX7_profile_73 : decode cX7_profile 73 = .ok (.aload_n 0, 1) := by decide +kernel
theorem dX7_profile_74 : decode cX7_profile 74 = .ok (.iload_n 1, 1) := by decide +kernel
theorem dX7_profile_75 : decode cX7_profile 75 = .ok (.invokevirtual 140, 3) := by decide +kernel
theorem dX7_profile_78 : decode cX7_profile 78 = .ok (.ireturn, 1) := by decide +kernel
theorem dX7_profile_79 : decode cX7_profile 79 = .ok (.aload_n 0, 1) := by decide +kernel
theorem dX7_profile_80 : decode cX7_profile 80 = .ok (.iload_n 1, 1) := by decide +kernel
theorem dX7_profile_81 : decode cX7_profile 81 = .ok (.iconst 0, 1) := by decide +kernel
theorem dX7_profile_82 : decode cX7_profile 82 = .ok (.invokevirtual 143, 3) := by decide +kernel
theorem dX7_profile_85 : decode cX7_profile 85 = .ok (.ireturn, 1) := by decide +kernel
theorem dX7_profile_86 : decode cX7_profile 86 = .ok (.aload_n 0, 1) := by decide +kernel
theorem dX7_profile_87 : decode cX7_profile 87 = .ok (.iload_n 1, 1) := by decide +kernel
theorem dX7_profile_88 : decode cX7_profile 88 = .ok (.iconst 1, 1) := by decide +kernel
theorem dX7_profile_89 : decode cX7_profile 89 = .ok (.invokevirtual 143, 3) := by decide +kernel
theorem dX7_profile_92 : decode cX7_profile 92 = .ok (.ireturn, 1) := by decide +kernel
theorem dX7_profile_93 : decode cX7_profile 93 = .ok (.aload_n 0, 1) := by decide +kernel
theorem dX7_profile_94 : decode cX7_profile 94 = .ok (.iload_n 1, 1) := by decide +kernel
theorem dX7_profile_95 : decode cX7_profile 95 = .ok (.invokevirtual 147, 3) := by decide +kernel
theorem dX7_profile_98 : decode cX7_profile 98 = .ok (.ireturn, 1) := by decide +kernel
theorem dX7_profile_99 : decode cX7_profile 99 = .ok (.sipush (-1002), 3) := by decide +kernel
theorem dX7_profile_102 : decode cX7_profile 102 = .ok (.ireturn, 1) := by decide +kernel
theorem dX7_lackingIn_0 : decode cX7_lackingIn 0 = .ok (.iconst 0, 1) := by decide +kernel
theorem dX7_lackingIn_1 : decode cX7_lackingIn 1 = .ok (.istore_n 2, 1) := by decide +kernel
theorem dX7_lackingIn_2 : decode cX7_lackingIn 2 = .ok (.iconst 0, 1) := by decide +kernel
theorem dX7_lackingIn_3 : decode cX7_lackingIn 3 = .ok (.istore_n 3, 1) := by decide +kernel
theorem dX7_lackingIn_4 : decode cX7_lackingIn 4 = .ok (.iload_n 3, 1) := by decide +kernel
theorem dX7_lackingIn_5 : decode cX7_lackingIn 5 = .ok (.iconst 3, 1) := by decide +kernel
theorem dX7_lackingIn_6 : decode cX7_lackingIn 6 = .ok (.if_icmp .ge 56, 3) := by decide +kernel
theorem dX7_lackingIn_9 : decode cX7_lackingIn 9 = .ok (.iload_n 2, 1) := by decide +kernel
theorem dX7_lackingIn_10 : decode cX7_lackingIn 10 = .ok (.aload_n 0, 1) := by decide +kernel
theorem dX7_lackingIn_11 : decode cX7_lackingIn 11 = .ok (.getfield 7, 3) := by decide +kernel
theorem dX7_lackingIn_14 : decode cX7_lackingIn 14 = .ok (.iconst 3, 1) := by decide +kernel
theorem dX7_lackingIn_15 : decode cX7_lackingIn 15 = .ok (.iload_n 1, 1) := by decide +kernel
theorem dX7_lackingIn_16 : decode cX7_lackingIn 16 = .ok (.imul, 1) := by decide +kernel
theorem dX7_lackingIn_17 : decode cX7_lackingIn 17 = .ok (.iload_n 3, 1) := by decide +kernel
theorem dX7_lackingIn_18 : decode cX7_lackingIn 18 = .ok (.iadd, 1) := by decide +kernel
theorem dX7_lackingIn_19 : decode cX7_lackingIn 19 = .ok (.iaload, 1) := by decide +kernel
theorem dX7_lackingIn_20 : decode cX7_lackingIn 20 = .ok (.aload_n 0, 1) := by decide +kernel
theorem dX7_lackingIn_21 : decode cX7_lackingIn 21 = .ok (.getfield 7, 3) := by decide +kernel
theorem dX7_lackingIn_24 : decode cX7_lackingIn 24 = .ok (.sipush 232, 3) := by decide +kernel
theorem dX7_lackingIn_27 : decode cX7_lackingIn 27 = .ok (.iaload, 1) := by decide +kernel
theorem dX7_lackingIn_28 : decode cX7_lackingIn 28 = .ok (.if_icmp .ge 25, 3) := by decide +kernel
theorem dX7_lackingIn_31 : decode cX7_lackingIn 31 = .ok (.aload_n 0, 1) := by decide +kernel
theorem dX7_lackingIn_32 : decode cX7_lackingIn 32 = .ok (.getfield 7, 3) := by decide +kernel
theorem dX7_lackingIn_35 : decode cX7_lackingIn 35 = .ok (.sipush 232, 3) := by decide +kernel
theorem dX7_lackingIn_38 : decode cX7_lackingIn 38 = .ok (.iaload, 1) := by decide +kernel
theorem dX7_lackingIn_39 : decode cX7_lackingIn 39 = .ok (.aload_n 0, 1) := by decide +kernel
theorem dX7_lackingIn_40 : decode cX7_lackingIn 40 = .ok (.getfield 7, 3) := by decide +kernel
theorem dX7_lackingIn_43 : decode cX7_lackingIn 43 = .ok (.iconst 3, 1) := by decide +kernel
theorem dX7_lackingIn_44 : decode cX7_lackingIn 44 = .ok (.iload_n 1, 1) := by decide +kernel
theorem dX7_lackingIn_45 : decode cX7_lackingIn 45 = .ok (.imul, 1) := by decide +kernel
theorem dX7_lackingIn_46 : decode cX7_lackingIn 46 = .ok (.iload_n 3, 1) := by decide +kernel
theorem dX7_lackingIn_47 : decode cX7_lackingIn 47 = .ok (.iadd, 1) := by decide +kernel
theorem dX7_lackingIn_48 : decode cX7_lackingIn 48 = .ok (.iaload, 1) := by decide +kernel
theorem dX7_lackingIn_49 : decode cX7_lackingIn 49 = .ok (.isub, 1) := by decide +kernel
theorem dX7_lackingIn_50 : decode cX7_lackingIn 50 = .ok (.goto 4, 3) := by decide +kernel
theorem dX7_lackingIn_53 : decode cX7_lackingIn 53 = .ok (.iconst 0, 1) := by decide +kernel
theorem dX7_lackingIn_54 : decode cX7_lackingIn 54 = .ok (.iadd, 1) := by decide +kernel
theorem dX7_lackingIn_55 : decode cX7_lackingIn 55 = .ok (.istore_n 2, 1) := by decide +kernel
theorem dX7_lackingIn_56 : decode cX7_lackingIn 56 = .ok (.iinc 3 1, 3) := by decide +kernel
theorem dX7_lackingIn_59 : decode cX7_lackingIn 59 = .ok (.goto (-55), 3) := by decide +kernel
theorem dX7_lackingIn_62 : decode cX7_lackingIn 62 = .ok (.iload_n 2, 1) := by decide +kernel
theorem dX7_lackingIn_63 : decode cX7_lackingIn 63 = .ok (.ireturn, 1) := by decide +kernel
theorem dX7_lacking_0 : decode cX7_lacking 0 = .ok (.iload_n 1, 1) := by decide +kernel
theorem dX7_lacking_1 : decode cX7_lacking 1 = .ok (.iconst (-1), 1) := by decide +kernel
theorem dX7_lacking_2 : decode cX7_lacking 2 = .ok (.if_icmp .ge 7, 3) := by decide +kernel
theorem dX7_lacking_5 : decode cX7_lacking 5 = .ok (.sipush (-1002), 3) := by decide +kernel

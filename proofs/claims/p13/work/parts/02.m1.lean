theorem dX13_drop_10 : decode cX13_drop 10 = .ok (.invokevirtual 171, 3) := by decide +kernel
theorem dX13_drop_13 : decode cX13_drop 13 = .ok (.ireturn, 1) := by decide +kernel
theorem dX13_drop_14 : decode cX13_drop 14 = .ok (.aload_n 0, 1) := by decide +kernel
theorem dX13_drop_15 : decode cX13_drop 15 = .ok (.getfield 150, 3) := by decide +kernel
theorem dX13_drop_18 : decode cX13_drop 18 = .ok (.iload_n 1, 1) := by decide +kernel
theorem dX13_drop_19 : decode cX13_drop 19 = .ok (.iaload, 1) := by decide +kernel
theorem dX13_drop_20 : decode cX13_drop 20 = .ok (.ifCond .gt 12, 3) := by decide +kernel
theorem dX13_drop_23 : decode cX13_drop 23 = .ok (.aload_n 0, 1) := by decide +kernel
theorem dX13_drop_24 : decode cX13_drop 24 = .ok (.getfield 156, 3) := by decide +kernel
theorem dX13_drop_27 : decode cX13_drop 27 = .ok (.iload_n 1, 1) := by decide +kernel
theorem dX13_drop_28 : decode cX13_drop 28 = .ok (.iaload, 1) := by decide +kernel
theorem dX13_drop_29 : decode cX13_drop 29 = .ok (.ifCond .le 9, 3) := by decide +kernel
theorem dX13_drop_32 : decode cX13_drop 32 = .ok (.aload_n 0, 1) := by decide +kernel
theorem dX13_drop_33 : decode cX13_drop 33 = .ok (.iconst 2, 1) := by decide +kernel
theorem dX13_drop_34 : decode cX13_drop 34 = .ok (.invokevirtual 171, 3) := by decide +kernel
theorem dX13_drop_37 : decode cX13_drop 37 = .ok (.ireturn, 1) := by decide +kernel
theorem dX13_drop_38 : decode cX13_drop 38 = .ok (.aload_n 0, 1) := by decide +kernel
theorem dX13_drop_39 : decode cX13_drop 39 = .ok (.iconst 0, 1) := by decide +kernel
theorem dX13_drop_40 : decode cX13_drop 40 = .ok (.putfield 165, 3) := by decide +kernel
theorem dX13_drop_43 : decode cX13_drop 43 = .ok (.aload_n 0, 1) := by decide +kernel
theorem dX13_drop_44 : decode cX13_drop 44 = .ok (.getfield 135, 3) := by decide +kernel
theorem dX13_drop_47 : decode cX13_drop 47 = .ok (.iload_n 1, 1) := by decide +kernel
theorem dX13_drop_48 : decode cX13_drop 48 = .ok (.iconst 0, 1) := by decide +kernel
theorem dX13_drop_49 : decode cX13_drop 49 = .ok (.iastore, 1) := by decide +kernel
theorem dX13_drop_50 : decode cX13_drop 50 = .ok (.aload_n 0, 1) := by decide +kernel
theorem dX13_drop_51 : decode cX13_drop 51 = .ok (.invokevirtual 223, 3) := by decide +kernel
theorem dX13_drop_54 : decode cX13_drop 54 = .ok (.ireturn, 1) := by decide +kernel
theorem dX13_thread_0 : decode cX13_thread 0 = .ok (.aload_n 0, 1) := by decide +kernel
theorem dX13_thread_1 : decode cX13_thread 1 = .ok (.invokevirtual 226, 3) := by decide +kernel
theorem dX13_thread_4 : decode cX13_thread 4 = .ok (.aload_n 0, 1) := by decide +kernel
theorem dX13_thread_5 : decode cX13_thread 5 = .ok (.aload_n 0, 1) := by decide +kernel
theorem dX13_thread_6 : decode cX13_thread 6 = .ok (.getfield 186, 3) := by decide +kernel
theorem dX13_thread_9 : decode cX13_thread 9 = .ok (.putfield 13, 3) := by decide +kernel
theorem dX13_thread_12 : decode cX13_thread 12 = .ok (.aload_n 0, 1) := by decide +kernel
theorem dX13_thread_13 : decode cX13_thread 13 = .ok (.getfield 186, 3) := by decide +kernel
theorem dX13_thread_16 : decode cX13_thread 16 = .ok (.ifCond .lt 9, 3) := by decide +kernel
theorem dX13_thread_19 : decode cX13_thread 19 = .ok (.aload_n 0, 1) := by decide +kernel
theorem dX13_thread_20 : decode cX13_thread 20 = .ok (.iconst 2, 1) := by decide +kernel
theorem dX13_thread_21 : decode cX13_thread 21 = .ok (.invokevirtual 171, 3) := by decide +kernel
theorem dX13_thread_24 : decode cX13_thread 24 = .ok (.ireturn, 1) := by decide +kernel
theorem dX13_thread_25 : decode cX13_thread 25 = .ok (.iconst 0, 1) := by decide +kernel
theorem dX13_thread_26 : decode cX13_thread 26 = .ok (.istore_n 1, 1) := by decide +kernel
theorem dX13_thread_27 : decode cX13_thread 27 = .ok (.iload_n 1, 1) := by decide +kernel
theorem dX13_thread_28 : decode cX13_thread 28 = .ok (.bipush 8, 2) := by decide +kernel
theorem dX13_thread_30 : decode cX13_thread 30 = .ok (.if_icmp .ge 23, 3) := by decide +kernel
theorem dX13_thread_33 : decode cX13_thread 33 = .ok (.aload_n 0, 1) := by decide +kernel
theorem dX13_thread_34 : decode cX13_thread 34 = .ok (.getfield 98, 3) := by decide +kernel
theorem dX13_thread_37 : decode cX13_thread 37 = .ok (.iload_n 1, 1) := by decide +kernel
theorem dX13_thread_38 : decode cX13_thread 38 = .ok (.iaload, 1) := by decide +kernel
theorem dX13_thread_39 : decode cX13_thread 39 = .ok (.iconst 1, 1) := by decide +kernel
theorem dX13_thread_40 : decode cX13_thread 40 = .ok (.iconst 3, 1) := by decide +kernel
theorem dX13_thread_41 : decode cX13_thread 41 = .ok (.invokestatic 179, 3) := by decide +kernel
theorem dX13_thread_44 : decode cX13_thread 44 = .ok (.ifCond .eq 9, 3) := by decide +kernel
theorem dX13_thread_47 : decode cX13_thread 47 = .ok (.iinc 1 1, 3) := by decide +kernel
theorem dX13_thread_50 : decode cX13_thread 50 = .ok (.goto (-23), 3) := by decide +kernel
theorem dX13_thread_53 : decode cX13_thread 53 = .ok (.iload_n 1, 1) := by decide +kernel
theorem dX13_thread_54 : decode cX13_thread 54 = .ok (.bipush 8, 2) := by decide +kernel
theorem dX13_thread_56 : decode cX13_thread 56 = .ok (.if_icmp .ne 9, 3) := by decide +kernel
theorem dX13_thread_59 : decode cX13_thread 59 = .ok (.aload_n 0, 1) := by decide +kernel
theorem dX13_thread_60 : decode cX13_thread 60 = .ok (.iconst 1, 1) := by decide +kernel
theorem dX13_thread_61 : decode cX13_thread 61 = .ok (.invokevirtual 171, 3) := by decide +kernel
theorem dX13_thread_64 : decode cX13_thread 64 = .ok (.ireturn, 1) := by decide +kernel
theorem dX13_thread_65 : decode cX13_thread 65 = .ok (.aload_n 0, 1) := by decide +kernel
theorem dX13_thread_66 : decode cX13_thread 66 = .ok (.iconst 0, 1) := by decide +kernel
theorem dX13_thread_67 : decode cX13_thread 67 = .ok (.putfield 165, 3) := by decide +kernel
theorem dX13_thread_70 : decode cX13_thread 70 = .ok (.iconst 0, 1) := by decide +kernel
theorem dX13_thread_71 : decode cX13_thread 71 = .ok (.istore_n 2, 1) := by decide +kernel
theorem dX13_thread_72 : decode cX13_thread 72 = .ok (.iload_n 2, 1) := by decide +kernel
theorem dX13_thread_73 : decode cX13_thread 73 = .ok (.iconst 4, 1) := by decide +kernel
theorem dX13_thread_74 : decode cX13_thread 74 = .ok (.aload_n 0, 1) := by decide +kernel
theorem dX13_thread_75 : decode cX13_thread 75 = .ok (.getfield 208, 3) := by decide +kernel
theorem dX13_thread_78 : decode cX13_thread 78 = .ok (.imul, 1) := by decide +kernel
theorem dX13_thread_79 : decode cX13_thread 79 = .ok (.if_icmp .ge 27, 3) := by decide +kernel
theorem dX13_thread_82 : decode cX13_thread 82 = .ok (.aload_n 0, 1) := by decide +kernel
theorem dX13_thread_83 : decode cX13_thread 83 = .ok (.getfield 92, 3) := by decide +kernel
theorem dX13_thread_86 : decode cX13_thread 86 = .ok (.sipush 240, 3) := by decide +kernel
theorem dX13_thread_89 : decode cX13_thread 89 = .ok (.iload_n 1, 1) := by decide +kernel
theorem dX13_thread_90 : decode cX13_thread 90 = .ok (.imul, 1) := by decide +kernel
theorem dX13_thread_91 : decode cX13_thread 91 = .ok (.iload_n 2, 1) := by decide +kernel
theorem dX13_thread_92 : decode cX13_thread 92 = .ok (.iadd, 1) := by decide +kernel
theorem dX13_thread_93 : decode cX13_thread 93 = .ok (.aload_n 0, 1) := by decide +kernel
theorem dX13_thread_94 : decode cX13_thread 94 = .ok (.getfield 89, 3) := by decide +kernel
theorem dX13_thread_97 : decode cX13_thread 97 = .ok (.iload_n 2, 1) := by decide +kernel
theorem dX13_thread_98 : decode cX13_thread 98 = .ok (.iaload, 1) := by decide +kernel
theorem dX13_thread_99 : decode cX13_thread 99 = .ok (.iastore, 1) := by decide +kernel
theorem dX13_thread_100 : decode cX13_thread 100 = .ok (.iinc 2 1, 3) := by decide +kernel
theorem dX13_thread_103 : decode cX13_thread 103 = .ok (.goto (-31), 3) := by decide +kernel
theorem dX13_thread_106 : decode cX13_thread 106 = .ok (.aload_n 0, 1) := by decide +kernel
theorem dX13_thread_107 : decode cX13_thread 107 = .ok (.getfield 95, 3) := by decide +kernel
theorem dX13_thread_110 : decode cX13_thread 110 = .ok (.iload_n 1, 1) := by decide +kernel
theorem dX13_thread_111 : decode cX13_thread 111 = .ok (.aload_n 0, 1) := by decide +kernel
theorem dX13_thread_112 : decode cX13_thread 112 = .ok (.getfield 208, 3) := by decide +kernel
theorem dX13_thread_115 : decode cX13_thread 115 = .ok (.iastore, 1) := by decide +kernel
theorem dX13_thread_116 : decode cX13_thread 116 = .ok (.aload_n 0, 1) := by decide +kernel
theorem dX13_thread_117 : decode cX13_thread 117 = .ok (.getfield 98, 3) := by decide +kernel
theorem dX13_thread_120 : decode cX13_thread 120 = .ok (.iload_n 1, 1) := by decide +kernel
theorem dX13_thread_121 : decode cX13_thread 121 = .ok (.iconst 1, 1) := by decide +kernel
theorem dX13_thread_122 : decode cX13_thread 122 = .ok (.iastore, 1) := by decide +kernel
theorem dX13_thread_123 : decode cX13_thread 123 = .ok (.aload_n 0, 1) := by decide +kernel
theorem dX13_thread_124 : decode cX13_thread 124 = .ok (.getfield 101, 3) := by decide +kernel
theorem dX13_thread_127 : decode cX13_thread 127 = .ok (.iload_n 1, 1) := by decide +kernel
theorem dX13_thread_128 : decode cX13_thread 128 = .ok (.iconst 0, 1) := by decide +kernel
theorem dX13_thread_129 : decode cX13_thread 129 = .ok (.iastore, 1) := by decide +kernel
theorem dX13_thread_130 : decode cX13_thread 130 = .ok (.aload_n 0, 1) := by decide +kernel
theorem dX13_thread_131 : decode cX13_thread 131 = .ok (.getfield 104, 3) := by decide +kernel
theorem dX13_thread_134 : decode cX13_thread 134 = .ok (.iload_n 1, 1) := by decide +kernel
theorem dX13_thread_135 : decode cX13_thread 135 = .ok (.iconst 0, 1) := by decide +kernel
theorem dX13_thread_136 : decode cX13_thread 136 = .ok (.iastore, 1) := by decide +kernel
theorem dX13_thread_137 : decode cX13_thread 137 = .ok (.aload_n 0, 1) := by decide +kernel
theorem dX13_thread_138 : decode cX13_thread 138 = .ok (.getfield 107, 3) := by decide +kernel
theorem dX13_thread_141 : decode cX13_thread 141 = .ok (.iload_n 1, 1) := by decide +kernel
theorem dX13_thread_142 : decode cX13_thread 142 = .ok (.iconst (-1), 1) := by decide +kernel
theorem dX13_thread_143 : decode cX13_thread 143 = .ok (.iastore, 1) := by decide +kernel
theorem dX13_thread_144 : decode cX13_thread 144 = .ok (.aload_n 0, 1) := by decide +kernel
theorem dX13_thread_145 : decode cX13_thread 145 = .ok (.getfield 110, 3) := by decide +kernel
theorem dX13_thread_148 : decode cX13_thread 148 = .ok (.iload_n 1, 1) := by decide +kernel
theorem dX13_thread_149 : decode cX13_thread 149 = .ok (.iconst 0, 1) := by decide +kernel
theorem dX13_thread_150 : decode cX13_thread 150 = .ok (.iastore, 1) := by decide +kernel
theorem dX13_thread_151 : decode cX13_thread 151 = .ok (.aload_n 0, 1) := by decide +kernel
theorem dX13_thread_152 : decode cX13_thread 152 = .ok (.getfield 119, 3) := by decide +kernel
theorem dX13_thread_155 : decode cX13_thread 155 = .ok (.iload_n 1, 1) := by decide +kernel
theorem dX13_thread_156 : decode cX13_thread 156 = .ok (.iconst 0, 1) := by decide +kernel
theorem dX13_thread_157 : decode cX13_thread 157 = .ok (.bastore, 1) := by decide +kernel
theorem dX13_thread_158 : decode cX13_thread 158 = .ok (.aload_n 0, 1) := by decide +kernel
theorem dX13_thread_159 : decode cX13_thread 159 = .ok (.getfield 123, 3) := by decide +kernel
theorem dX13_thread_162 : decode cX13_thread 162 = .ok (.iload_n 1, 1) := by decide +kernel
theorem dX13_thread_163 : decode cX13_thread 163 = .ok (.iconst 0, 1) := by decide +kernel
theorem dX13_thread_164 : decode cX13_thread 164 = .ok (.bastore, 1) := by decide +kernel
theorem dX13_thread_165 : decode cX13_thread 165 = .ok (.aload_n 0, 1) := by decide +kernel
theorem dX13_thread_166 : decode cX13_thread 166 = .ok (.getfield 126, 3) := by decide +kernel
theorem dX13_thread_169 : decode cX13_thread 169 = .ok (.iload_n 1, 1) := by decide +kernel
theorem dX13_thread_170 : decode cX13_thread 170 = .ok (.iconst 0, 1) := by decide +kernel
theorem dX13_thread_171 : decode cX13_thread 171 = .ok (.bastore, 1) := by decide +kernel
theorem dX13_thread_172 : decode cX13_thread 172 = .ok (.iload_n 1, 1) := by decide +kernel
theorem dX13_thread_173 : decode cX13_thread 173 = .ok (.ireturn, 1) := by decide +kernel
theorem dX13_part_0 : decode cX13_part 0 = .ok (.aload_n 0, 1) := by decide +kernel
theorem dX13_part_1 : decode cX13_part 1 = .ok (.getfield 92, 3) := by decide +kernel
theorem dX13_part_4 : decode cX13_part 4 = .ok (.sipush 240, 3) := by decide +kernel
theorem dX13_part_7 : decode cX13_part 7 = .ok (.iload_n 1, 1) := by decide +kernel
theorem dX13_part_8 : decode cX13_part 8 = .ok (.imul, 1) := by decide +kernel
theorem dX13_part_9 : decode cX13_part 9 = .ok (.iconst 4, 1) := by decide +kernel
theorem dX13_part_10 : decode cX13_part 10 = .ok (.aload_n 0, 1) := by decide +kernel
theorem dX13_part_11 : decode cX13_part 11 = .ok (.getfield 104, 3) := by decide +kernel
theorem dX13_part_14 : decode cX13_part 14 = .ok (.iload_n 1, 1) := by decide +kernel
theorem dX13_part_15 : decode cX13_part 15 = .ok (.iaload, 1) := by decide +kernel
theorem dX13_part_16 : decode cX13_part 16 = .ok (.imul, 1) := by decide +kernel
theorem dX13_part_17 : decode cX13_part 17 = .ok (.iadd, 1) := by decide +kernel
theorem dX13_part_18 : decode cX13_part 18 = .ok (.iload_n 2, 1) := by decide +kernel
theorem dX13_part_19 : decode cX13_part 19 = .ok (.iadd, 1) := by decide +kernel
theorem dX13_part_20 : decode cX13_part 20 = .ok (.iaload, 1) := by decide +kernel
theorem dX13_part_21 : decode cX13_part 21 = .ok (.ireturn, 1) := by decide +kernel
theorem dX13_waitFor_0 : decode cX13_waitFor 0 = .ok (.aload_n 0, 1) := by decide +kernel
theorem dX13_waitFor_1 : decode cX13_waitFor 1 = .ok (.getfield 98, 3) := by decide +kernel
theorem dX13_waitFor_4 : decode cX13_waitFor 4 = .ok (.iload_n 1, 1) := by decide +kernel
theorem dX13_waitFor_5 : decode cX13_waitFor 5 = .ok (.iconst 2, 1) := by decide +kernel
theorem dX13_waitFor_6 : decode cX13_waitFor 6 = .ok (.iastore, 1) := by decide +kernel
theorem dX13_waitFor_7 : decode cX13_waitFor 7 = .ok (.aload_n 0, 1) := by decide +kernel
theorem dX13_waitFor_8 : decode cX13_waitFor 8 = .ok (.getfield 107, 3) := by decide +kernel
theorem dX13_waitFor_11 : decode cX13_waitFor 11 = .ok (.iload_n 1, 1) := by decide +kernel
theorem dX13_waitFor_12 : decode cX13_waitFor 12 = .ok (.iload_n 2, 1) := by decide +kernel
theorem dX13_waitFor_13 : decode cX13_waitFor 13 = .ok (.iastore, 1) := by decide +kernel
theorem dX13_waitFor_14 : decode cX13_waitFor 14 = .ok (.aload_n 0, 1) := by decide +kernel
theorem dX13_waitFor_15 : decode cX13_waitFor 15 = .ok (.getfield 147, 3) := by decide +kernel
theorem dX13_waitFor_18 : decode cX13_waitFor 18 = .ok (.bipush 8, 2) := by decide +kernel
theorem dX13_waitFor_20 : decode cX13_waitFor 20 = .ok (.iload_n 2, 1) := by decide +kernel
theorem dX13_waitFor_21 : decode cX13_waitFor 21 = .ok (.imul, 1) := by decide +kernel
theorem dX13_waitFor_22 : decode cX13_waitFor 22 = .ok (.aload_n 0, 1) := by decide +kernel
theorem dX13_waitFor_23 : decode cX13_waitFor 23 = .ok (.getfield 150, 3) := by decide +kernel
theorem dX13_waitFor_26 : decode cX13_waitFor 26 = .ok (.iload_n 2, 1) := by decide +kernel
theorem dX13_waitFor_27 : decode cX13_waitFor 27 = .ok (.iaload, 1) := by decide +kernel
theorem dX13_waitFor_28 : decode cX13_waitFor 28 = .ok (.iadd, 1) := by decide +kernel
theorem dX13_waitFor_29 : decode cX13_waitFor 29 = .ok (.iload_n 1, 1) := by decide +kernel
theorem dX13_waitFor_30 : decode cX13_waitFor 30 = .ok (.iastore, 1) := by decide +kernel
theorem dX13_waitFor_31 : decode cX13_waitFor 31 = .ok (.aload_n 0, 1) := by decide +kernel
theorem dX13_waitFor_32 : decode cX13_waitFor 32 = .ok (.getfield 150, 3) := by decide +kernel
theorem dX13_waitFor_35 : decode cX13_waitFor 35 = .ok (.iload_n 2, 1) := by decide +kernel
theorem dX13_waitFor_36 : decode cX13_waitFor 36 = .ok (.dup2, 1) := by decide +kernel
theorem dX13_waitFor_37 : decode cX13_waitFor 37 = .ok (.iaload, 1) := by decide +kernel
theorem dX13_waitFor_38 : decode cX13_waitFor 38 = .ok (.iconst 1, 1) := by decide +kernel
theorem dX13_waitFor_39 : decode cX13_waitFor 39 = .ok (.iadd, 1) := by decide +kernel
theorem dX13_waitFor_40 : decode cX13_waitFor 40 = .ok (.iastore, 1) := by decide +kernel
theorem dX13_waitFor_41 : decode cX13_waitFor 41 = .ok (.return_, 1) := by decide +kernel
theorem dX13_leaves_0 : decode cX13_leaves 0 = .ok (.iconst 0, 1) := by decide +kernel
theorem dX13_leaves_1 : decode cX13_leaves 1 = .ok (.istore_n 3, 1) := by decide +kernel
theorem dX13_leaves_2 : decode cX13_leaves 2 = .ok (.iconst 0, 1) := by decide +kernel
theorem dX13_leaves_3 : decode cX13_leaves 3 = .ok (.istore 4, 2) := by decide +kernel
theorem dX13_leaves_5 : decode cX13_leaves 5 = .ok (.iload 4, 2) := by decide +kernel
theorem dX13_leaves_7 : decode cX13_leaves 7 = .ok (.aload_n 0, 1) := by decide +kernel
theorem dX13_leaves_8 : decode cX13_leaves 8 = .ok (.getfield 150, 3) := by decide +kernel
theorem dX13_leaves_11 : decode cX13_leaves 11 = .ok (.iload_n 1, 1) := by decide +kernel
theorem dX13_leaves_12 : decode cX13_leaves 12 = .ok (.iaload, 1) := by decide +kernel
theorem dX13_leaves_13 : decode cX13_leaves 13 = .ok (.if_icmp .ge 54, 3) := by decide +kernel
theorem dX13_leaves_16 : decode cX13_leaves 16 = .ok (.aload_n 0, 1) := by decide +kernel
theorem dX13_leaves_17 : decode cX13_leaves 17 = .ok (.getfield 147, 3) := by decide +kernel
theorem dX13_leaves_20 : decode cX13_leaves 20 = .ok (.bipush 8, 2) := by decide +kernel
theorem dX13_leaves_22 : decode cX13_leaves 22 = .ok (.iload_n 1, 1) := by decide +kernel
theorem dX13_leaves_23 : decode cX13_leaves 23 = .ok (.imul, 1) := by decide +kernel
theorem dX13_leaves_24 : decode cX13_leaves 24 = .ok (.iload 4, 2) := by decide +kernel
theorem dX13_leaves_26 : decode cX13_leaves 26 = .ok (.iadd, 1) := by decide +kernel
theorem dX13_leaves_27 : decode cX13_leaves 27 = .ok (.iaload, 1) := by decide +kernel
theorem dX13_leaves_28 : decode cX13_leaves 28 = .ok (.iload_n 2, 1) := by decide +kernel
theorem dX13_leaves_29 : decode cX13_leaves 29 = .ok (.if_icmp .ne 6, 3) := by decide +kernel
theorem dX13_leaves_32 : decode cX13_leaves 32 = .ok (.goto 29, 3) := by decide +kernel
theorem dX13_leaves_35 : decode cX13_leaves 35 = .ok (.aload_n 0, 1) := by decide +kernel
theorem dX13_leaves_36 : decode cX13_leaves 36 = .ok (.getfield 147, 3) := by decide +kernel
theorem dX13_leaves_39 : decode cX13_leaves 39 = .ok (.bipush 8, 2) := by decide +kernel
theorem dX13_leaves_41 : decode cX13_leaves 41 = .ok (.iload_n 1, 1) := by decide +kernel
theorem dX13_leaves_42 : decode cX13_leaves 42 = .ok (.imul, 1) := by decide +kernel
theorem dX13_leaves_43 : decode cX13_leaves 43 = .ok (.iload_n 3, 1) := by decide +kernel
theorem dX13_leaves_44 : decode cX13_leaves 44 = .ok (.iadd, 1) := by decide +kernel
theorem dX13_leaves_45 : decode cX13_leaves 45 = .ok (.aload_n 0, 1) := by decide +kernel
theorem dX13_leaves_46 : decode cX13_leaves 46 = .ok (.getfield 147, 3) := by decide +kernel
theorem dX13_leaves_49 : decode cX13_leaves 49 = .ok (.bipush 8, 2) := by decide +kernel
theorem dX13_leaves_51 : decode cX13_leaves 51 = .ok (.iload_n 1, 1) := by decide +kernel
theorem dX13_leaves_52 : decode cX13_leaves 52 = .ok (.imul, 1) := by decide +kernel
theorem dX13_leaves_53 : decode cX13_leaves 53 = .ok (.iload 4, 2) := by decide +kernel
theorem dX13_leaves_55 : decode cX13_leaves 55 = .ok (.iadd, 1) := by decide +kernel
theorem dX13_leaves_56 : decode cX13_leaves 56 = .ok (.iaload, 1) := by decide +kernel
theorem dX13_leaves_57 : decode cX13_leaves 57 = .ok (.iastore, 1) := by decide +kernel
theorem dX13_leaves_58 : decode cX13_leaves 58 = .ok (.iinc 3 1, 3) := by decide +kernel
theorem dX13_leaves_61 : decode cX13_leaves 61 = .ok (.iinc 4 1, 3) := by decide +kernel
theorem dX13_leaves_64 : decode cX13_leaves 64 = .ok (.goto (-59), 3) := by decide +kernel
theorem dX13_leaves_67 : decode cX13_leaves 67 = .ok (.aload_n 0, 1) := by decide +kernel
theorem dX13_leaves_68 : decode cX13_leaves 68 = .ok (.getfield 150, 3) := by decide +kernel
theorem dX13_leaves_71 : decode cX13_leaves 71 = .ok (.iload_n 1, 1) := by decide +kernel
theorem dX13_leaves_72 : decode cX13_leaves 72 = .ok (.iload_n 3, 1) := by decide +kernel
theorem dX13_leaves_73 : decode cX13_leaves 73 = .ok (.iastore, 1) := by decide +kernel
theorem dX13_leaves_74 : decode cX13_leaves 74 = .ok (.return_, 1) := by decide +kernel
theorem dX13_goesOn_0 : decode cX13_goesOn 0 = .ok (.aload_n 0, 1) := by decide +kernel
theorem dX13_goesOn_1 : decode cX13_goesOn 1 = .ok (.getfield 107, 3) := by decide +kernel
theorem dX13_goesOn_4 : decode cX13_goesOn 4 = .ok (.iload_n 1, 1) := by decide +kernel
theorem dX13_goesOn_5 : decode cX13_goesOn 5 = .ok (.iconst (-1), 1) := by decide +kernel
theorem dX13_goesOn_6 : decode cX13_goesOn 6 = .ok (.iastore, 1) := by decide +kernel
theorem dX13_goesOn_7 : decode cX13_goesOn 7 = .ok (.aload_n 0, 1) := by decide +kernel
theorem dX13_goesOn_8 : decode cX13_goesOn 8 = .ok (.getfield 104, 3) := by decide +kernel
theorem dX13_goesOn_11 : decode cX13_goesOn 11 = .ok (.iload_n 1, 1) := by decide +kernel
theorem dX13_goesOn_12 : decode cX13_goesOn 12 = .ok (.dup2, 1) := by decide +kernel
theorem dX13_goesOn_13 : decode cX13_goesOn 13 = .ok (.iaload, 1) := by decide +kernel
theorem dX13_goesOn_14 : decode cX13_goesOn 14 = .ok (.iconst 1, 1) := by decide +kernel
theorem dX13_goesOn_15 : decode cX13_goesOn 15 = .ok (.iadd, 1) := by decide +kernel
theorem dX13_goesOn_16 : decode cX13_goesOn 16 = .ok (.iastore, 1) := by decide +kernel
theorem dX13_goesOn_17 : decode cX13_goesOn 17 = .ok (.aload_n 0, 1) := by decide +kernel
theorem dX13_goesOn_18 : decode cX13_goesOn 18 = .ok (.getfield 98, 3) := by decide +kernel
theorem dX13_goesOn_21 : decode cX13_goesOn 21 = .ok (.iload_n 1, 1) := by decide +kernel
theorem dX13_goesOn_22 : decode cX13_goesOn 22 = .ok (.aload_n 0, 1) := by decide +kernel
theorem dX13_goesOn_23 : decode cX13_goesOn 23 = .ok (.getfield 104, 3) := by decide +kernel
theorem dX13_goesOn_26 : decode cX13_goesOn 26 = .ok (.iload_n 1, 1) := by decide +kernel
theorem dX13_goesOn_27 : decode cX13_goesOn 27 = .ok (.iaload, 1) := by decide +kernel
theorem dX13_goesOn_28 : decode cX13_goesOn 28 = .ok (.aload_n 0, 1) := by decide +kernel
theorem dX13_goesOn_29 : decode cX13_goesOn 29 = .ok (.getfield 95, 3) := by decide +kernel
theorem dX13_goesOn_32 : decode cX13_goesOn 32 = .ok (.iload_n 1, 1) := by decide +kernel
theorem dX13_goesOn_33 : decode cX13_goesOn 33 = .ok (.iaload, 1) := by decide +kernel
theorem dX13_goesOn_34 : decode cX13_goesOn 34 = .ok (.if_icmp .lt 7, 3) := by decide +kernel
theorem dX13_goesOn_37 : decode cX13_goesOn 37 = .ok (.iconst 4, 1) := by decide +kernel
theorem dX13_goesOn_38 : decode cX13_goesOn 38 = .ok (.goto 4, 3) := by decide +kernel
theorem dX13_goesOn_41 : decode cX13_goesOn 41 = .ok (.iconst 1, 1) := by decide +kernel
theorem dX13_goesOn_42 : decode cX13_goesOn 42 = .ok (.iastore, 1) := by decide +kernel
theorem dX13_goesOn_43 : decode cX13_goesOn 43 = .ok (.return_, 1) := by decide +kernel
theorem dX13_firstGoesOn_0 : decode cX13_firstGoesOn 0 = .ok (.aload_n 0, 1) := by decide +kernel
theorem dX13_firstGoesOn_1 : decode cX13_firstGoesOn 1 = .ok (.getfield 147, 3) := by decide +kernel
theorem dX13_firstGoesOn_4 : decode cX13_firstGoesOn 4 = .ok (.bipush 8, 2) := by decide +kernel
theorem dX13_firstGoesOn_6 : decode cX13_firstGoesOn 6 = .ok (.iload_n 1, 1) := by decide +kernel
theorem dX13_firstGoesOn_7 : decode cX13_firstGoesOn 7 = .ok (.imul, 1) := by decide +kernel
theorem dX13_firstGoesOn_8 : decode cX13_firstGoesOn 8 = .ok (.iaload, 1) := by decide +kernel
theorem dX13_firstGoesOn_9 : decode cX13_firstGoesOn 9 = .ok (.istore_n 2, 1) := by decide +kernel
theorem dX13_firstGoesOn_10 : decode cX13_firstGoesOn 10 = .ok (.aload_n 0, 1) := by decide +kernel
theorem dX13_firstGoesOn_11 : decode cX13_firstGoesOn 11 = .ok (.iload_n 1, 1) := by decide +kernel
theorem dX13_firstGoesOn_12 : decode cX13_firstGoesOn 12 = .ok (.iload_n 2, 1) := by decide +kernel
theorem dX13_firstGoesOn_13 : decode cX13_firstGoesOn 13 = .ok (.invokevirtual 229, 3) := by decide +kernel
theorem dX13_firstGoesOn_16 : decode cX13_firstGoesOn 16 = .ok (.aload_n 0, 1) := by decide +kernel
theorem dX13_firstGoesOn_17 : decode cX13_firstGoesOn 17 = .ok (.iload_n 2, 1) := by decide +kernel
theorem dX13_firstGoesOn_18 : decode cX13_firstGoesOn 18 = .ok (.invokevirtual 233, 3) := by decide +kernel
theorem dX13_firstGoesOn_21 : decode cX13_firstGoesOn 21 = .ok (.iload_n 2, 1) := by decide +kernel
theorem dX13_firstGoesOn_22 : decode cX13_firstGoesOn 22 = .ok (.ireturn, 1) := by decide +kernel
theorem dX13_fails_0 : decode cX13_fails 0 = .ok (.aload_n 0, 1) := by decide +kernel
theorem dX13_fails_1 : decode cX13_fails 1 = .ok (.getfield 98, 3) := by decide +kernel
theorem dX13_fails_4 : decode cX13_fails 4 = .ok (.iload_n 1, 1) := by decide +kernel
theorem dX13_fails_5 : decode cX13_fails 5 = .ok (.iconst 5, 1) := by decide +kernel
theorem dX13_fails_6 : decode cX13_fails 6 = .ok (.iastore, 1) := by decide +kernel
theorem dX13_fails_7 : decode cX13_fails 7 = .ok (.aload_n 0, 1) := by decide +kernel
theorem dX13_fails_8 : decode cX13_fails 8 = .ok (.getfield 110, 3) := by decide +kernel
theorem dX13_fails_11 : decode cX13_fails 11 = .ok (.iload_n 1, 1) := by decide +kernel
theorem dX13_fails_12 : decode cX13_fails 12 = .ok (.iload_n 2, 1) := by decide +kernel
theorem dX13_fails_13 : decode cX13_fails 13 = .ok (.iastore, 1) := by decide +kernel
theorem dX13_fails_14 : decode cX13_fails 14 = .ok (.iconst 0, 1) := by decide +kernel
theorem dX13_fails_15 : decode cX13_fails 15 = .ok (.ireturn, 1) := by decide +kernel
theorem dX13_has_0 : decode cX13_has 0 = .ok (.aload_n 0, 1) := by decide +kernel
theorem dX13_has_1 : decode cX13_has 1 = .ok (.getfield 144, 3) := by decide +kernel
theorem dX13_has_4 : decode cX13_has 4 = .ok (.iload_n 1, 1) := by decide +kernel
theorem dX13_has_5 : decode cX13_has 5 = .ok (.iload_n 2, 1) := by decide +kernel
theorem dX13_has_6 : decode cX13_has 6 = .ok (.iastore, 1) := by decide +kernel
theorem dX13_has_7 : decode cX13_has 7 = .ok (.aload_n 0, 1) := by decide +kernel
theorem dX13_has_8 : decode cX13_has 8 = .ok (.getfield 138, 3) := by decide +kernel
theorem dX13_has_11 : decode cX13_has 11 = .ok (.iload_n 1, 1) := by decide +kernel
theorem dX13_has_12 : decode cX13_has 12 = .ok (.aload_n 0, 1) := by decide +kernel
theorem dX13_has_13 : decode cX13_has 13 = .ok (.getfield 126, 3) := by decide +kernel
theorem dX13_has_16 : decode cX13_has 16 = .ok (.iload_n 2, 1) := by decide +kernel
theorem dX13_has_17 : decode cX13_has 17 = .ok (.baload, 1) := by decide +kernel
theorem dX13_has_18 : decode cX13_has 18 = .ok (.ifCond .eq 12, 3) := by decide +kernel
theorem dX13_has_21 : decode cX13_has 21 = .ok (.aload_n 0, 1) := by decide +kernel
theorem dX13_has_22 : decode cX13_has 22 = .ok (.getfield 113, 3) := by decide +kernel
theorem dX13_has_25 : decode cX13_has 25 = .ok (.iload_n 2, 1) := by decide +kernel
theorem dX13_has_26 : decode cX13_has 26 = .ok (.iaload, 1) := by decide +kernel
theorem dX13_has_27 : decode cX13_has 27 = .ok (.goto 4, 3) := by decide +kernel
theorem dX13_has_30 : decode cX13_has 30 = .ok (.iconst 1, 1) := by decide +kernel
theorem dX13_has_31 : decode cX13_has 31 = .ok (.iastore, 1) := by decide +kernel
theorem dX13_has_32 : decode cX13_has 32 = .ok (.aload_n 0, 1) := by decide +kernel
theorem dX13_has_33 : decode cX13_has 33 = .ok (.getfield 126, 3) := by decide +kernel
theorem dX13_has_36 : decode cX13_has 36 = .ok (.iload_n 2, 1) := by decide +kernel
theorem dX13_has_37 : decode cX13_has 37 = .ok (.baload, 1) := by decide +kernel
theorem dX13_has_38 : decode cX13_has 38 = .ok (.ifCond .eq 15, 3) := by decide +kernel
theorem dX13_has_41 : decode cX13_has 41 = .ok (.aload_n 0, 1) := by decide +kernel
theorem dX13_has_42 : decode cX13_has 42 = .ok (.getfield 101, 3) := by decide +kernel
theorem dX13_has_45 : decode cX13_has 45 = .ok (.iload_n 2, 1) := by decide +kernel
theorem dX13_has_46 : decode cX13_has 46 = .ok (.aload_n 0, 1) := by decide +kernel
theorem dX13_has_47 : decode cX13_has 47 = .ok (.getfield 116, 3) := by decide +kernel
theorem dX13_has_50 : decode cX13_has 50 = .ok (.iload_n 2, 1) := by decide +kernel
theorem dX13_has_51 : decode cX13_has 51 = .ok (.iaload, 1) := by decide +kernel
theorem dX13_has_52 : decode cX13_has 52 = .ok (.iastore, 1) := by decide +kernel
theorem dX13_has_53 : decode cX13_has 53 = .ok (.aload_n 0, 1) := by decide +kernel
theorem dX13_has_54 : decode cX13_has 54 = .ok (.getfield 126, 3) := by decide +kernel
theorem dX13_has_57 : decode cX13_has 57 = .ok (.iload_n 2, 1) := by decide +kernel
theorem dX13_has_58 : decode cX13_has 58 = .ok (.iconst 0, 1) := by decide +kernel
theorem dX13_has_59 : decode cX13_has 59 = .ok (.bastore, 1) := by decide +kernel
theorem dX13_has_60 : decode cX13_has 60 = .ok (.aload_n 0, 1) := by decide +kernel
theorem dX13_has_61 : decode cX13_has 61 = .ok (.iload_n 1, 1) := by decide +kernel
theorem dX13_has_62 : decode cX13_has 62 = .ok (.iload_n 2, 1) := by decide +kernel
theorem dX13_has_63 : decode cX13_has 63 = .ok (.invokevirtual 229, 3) := by decide +kernel
theorem dX13_has_66 : decode cX13_has 66 = .ok (.aload_n 0, 1) := by decide +kernel
theorem dX13_has_67 : decode cX13_has 67 = .ok (.iload_n 2, 1) := by decide +kernel
theorem dX13_has_68 : decode cX13_has 68 = .ok (.invokevirtual 233, 3) := by decide +kernel
theorem dX13_has_71 : decode cX13_has 71 = .ok (.return_, 1) := by decide +kernel
theorem dX13_freed_0 : decode cX13_freed 0 = .ok (.aload_n 0, 1) := by decide +kernel
theorem dX13_freed_1 : decode cX13_freed 1 = .ok (.getfield 144, 3) := by decide +kernel
theorem dX13_freed_4 : decode cX13_freed 4 = .ok (.iload_n 1, 1) := by decide +kernel
theorem dX13_freed_5 : decode cX13_freed 5 = .ok (.iconst (-1), 1) := by decide +kernel
theorem dX13_freed_6 : decode cX13_freed 6 = .ok (.iastore, 1) := by decide +kernel
theorem dX13_freed_7 : decode cX13_freed 7 = .ok (.aload_n 0, 1) := by decide +kernel
theorem dX13_freed_8 : decode cX13_freed 8 = .ok (.getfield 138, 3) := by decide +kernel
theorem dX13_freed_11 : decode cX13_freed 11 = .ok (.iload_n 1, 1) := by decide +kernel
theorem dX13_freed_12 : decode cX13_freed 12 = .ok (.iconst 0, 1) := by decide +kernel
theorem dX13_freed_13 : decode cX13_freed 13 = .ok (.iastore, 1) := by decide +kernel
theorem dX13_freed_14 : decode cX13_freed 14 = .ok (.aload_n 0, 1) := by decide +kernel
theorem dX13_freed_15 : decode cX13_freed 15 = .ok (.getfield 150, 3) := by decide +kernel
theorem dX13_freed_18 : decode cX13_freed 18 = .ok (.iload_n 1, 1) := by decide +kernel
theorem dX13_freed_19 : decode cX13_freed 19 = .ok (.iaload, 1) := by decide +kernel
theorem dX13_freed_20 : decode cX13_freed 20 = .ok (.ifCond .ne 4, 3) := by decide +kernel
theorem dX13_freed_23 : decode cX13_freed 23 = .ok (.return_, 1) := by decide +kernel
theorem dX13_freed_24 : decode cX13_freed 24 = .ok (.aload_n 0, 1) := by decide +kernel
theorem dX13_freed_25 : decode cX13_freed 25 = .ok (.getfield 147, 3) := by decide +kernel
theorem dX13_freed_28 : decode cX13_freed 28 = .ok (.bipush 8, 2) := by decide +kernel
theorem dX13_freed_30 : decode cX13_freed 30 = .ok (.iload_n 1, 1) := by decide +kernel
theorem dX13_freed_31 : decode cX13_freed 31 = .ok (.imul, 1) := by decide +kernel
theorem dX13_freed_32 : decode cX13_freed 32 = .ok (.iaload, 1) := by decide +kernel
theorem dX13_freed_33 : decode cX13_freed 33 = .ok (.istore_n 2, 1) := by decide +kernel
theorem dX13_freed_34 : decode cX13_freed 34 = .ok (.aload_n 0, 1) := by decide +kernel
theorem dX13_freed_35 : decode cX13_freed 35 = .ok (.getfield 141, 3) := by decide +kernel
theorem dX13_freed_38 : decode cX13_freed 38 = .ok (.iload_n 1, 1) := by decide +kernel
theorem dX13_freed_39 : decode cX13_freed 39 = .ok (.iaload, 1) := by decide +kernel
theorem dX13_freed_40 : decode cX13_freed 40 = .ok (.iconst 1, 1) := by decide +kernel
theorem dX13_freed_41 : decode cX13_freed 41 = .ok (.if_icmp .ne 12, 3) := by decide +kernel
theorem dX13_freed_44 : decode cX13_freed 44 = .ok (.aload_n 0, 1) := by decide +kernel
theorem dX13_freed_45 : decode cX13_freed 45 = .ok (.iload_n 1, 1) := by decide +kernel
theorem dX13_freed_46 : decode cX13_freed 46 = .ok (.iload_n 2, 1) := by decide +kernel
theorem dX13_freed_47 : decode cX13_freed 47 = .ok (.invokevirtual 236, 3) := by decide +kernel
theorem dX13_freed_50 : decode cX13_freed 50 = .ok (.goto 17, 3) := by decide +kernel
theorem dX13_freed_53 : decode cX13_freed 53 = .ok (.aload_n 0, 1) := by decide +kernel
theorem dX13_freed_54 : decode cX13_freed 54 = .ok (.getfield 98, 3) := by decide +kernel
theorem dX13_freed_57 : decode cX13_freed 57 = .ok (.iload_n 2, 1) := by decide +kernel
theorem dX13_freed_58 : decode cX13_freed 58 = .ok (.iconst 1, 1) := by decide +kernel
theorem dX13_freed_59 : decode cX13_freed 59 = .ok (.iastore, 1) := by decide +kernel
theorem dX13_freed_60 : decode cX13_freed 60 = .ok (.aload_n 0, 1) := by decide +kernel
theorem dX13_freed_61 : decode cX13_freed 61 = .ok (.getfield 107, 3) := by decide +kernel
theorem dX13_freed_64 : decode cX13_freed 64 = .ok (.iload_n 2, 1) := by decide +kernel
theorem dX13_freed_65 : decode cX13_freed 65 = .ok (.iconst (-1), 1) := by decide +kernel
theorem dX13_freed_66 : decode cX13_freed 66 = .ok (.iastore, 1) := by decide +kernel
theorem dX13_freed_67 : decode cX13_freed 67 = .ok (.return_, 1) := by decide +kernel
theorem dX13_signalled_0 : decode cX13_signalled 0 = .ok (.iconst 0, 1) := by decide +kernel
theorem dX13_signalled_1 : decode cX13_signalled 1 = .ok (.istore_n 3, 1) := by decide +kernel
theorem dX13_signalled_2 : decode cX13_signalled 2 = .ok (.iconst 0, 1) := by decide +kernel
theorem dX13_signalled_3 : decode cX13_signalled 3 = .ok (.istore 4, 2) := by decide +kernel
theorem dX13_signalled_5 : decode cX13_signalled 5 = .ok (.iload 4, 2) := by decide +kernel
theorem dX13_signalled_7 : decode cX13_signalled 7 = .ok (.aload_n 0, 1) := by decide +kernel
theorem dX13_signalled_8 : decode cX13_signalled 8 = .ok (.getfield 156, 3) := by decide +kernel
theorem dX13_signalled_11 : decode cX13_signalled 11 = .ok (.iload_n 1, 1) := by decide +kernel
theorem dX13_signalled_12 : decode cX13_signalled 12 = .ok (.iaload, 1) := by decide +kernel
theorem dX13_signalled_13 : decode cX13_signalled 13 = .ok (.if_icmp .ge 54, 3) := by decide +kernel
theorem dX13_signalled_16 : decode cX13_signalled 16 = .ok (.aload_n 0, 1) := by decide +kernel
theorem dX13_signalled_17 : decode cX13_signalled 17 = .ok (.getfield 153, 3) := by decide +kernel
theorem dX13_signalled_20 : decode cX13_signalled 20 = .ok (.bipush 8, 2) := by decide +kernel
theorem dX13_signalled_22 : decode cX13_signalled 22 = .ok (.iload_n 1, 1) := by decide +kernel
theorem dX13_signalled_23 : decode cX13_signalled 23 = .ok (.imul, 1) := by decide +kernel
theorem dX13_signalled_24 : decode cX13_signalled 24 = .ok (.iload 4, 2) := by decide +kernel
theorem dX13_signalled_26 : decode cX13_signalled 26 = .ok (.iadd, 1) := by decide +kernel
theorem dX13_signalled_27 : decode cX13_signalled 27 = .ok (.iaload, 1) := by decide +kernel
theorem dX13_signalled_28 : decode cX13_signalled 28 = .ok (.iload_n 2, 1) := by decide +kernel
theorem dX13_signalled_29 : decode cX13_signalled 29 = .ok (.if_icmp .ne 6, 3) := by decide +kernel
theorem dX13_signalled_32 : decode cX13_signalled 32 = .ok (.goto 29, 3) := by decide +kernel
theorem dX13_signalled_35 : decode cX13_signalled 35 = .ok (.aload_n 0, 1) := by decide +kernel
theorem dX13_signalled_36 : decode cX13_signalled 36 = .ok (.getfield 153, 3) := by decide +kernel
theorem dX13_signalled_39 : decode cX13_signalled 39 = .ok (.bipush 8, 2) := by decide +kernel
theorem dX13_signalled_41 : decode cX13_signalled 41 = .ok (.iload_n 1, 1) := by decide +kernel
theorem dX13_signalled_42 : decode cX13_signalled 42 = .ok (.imul, 1) := by decide +kernel
theorem dX13_signalled_43 : decode cX13_signalled 43 = .ok (.iload_n 3, 1) := by decide +kernel
theorem dX13_signalled_44 : decode cX13_signalled 44 = .ok (.iadd, 1) := by decide +kernel
theorem dX13_signalled_45 : decode cX13_signalled 45 = .ok (.aload_n 0, 1) := by decide +kernel
theorem dX13_signalled_46 : decode cX13_signalled 46 = .ok (.getfield 153, 3) := by decide +kernel
theorem dX13_signalled_49 : decode cX13_signalled 49 = .ok (.bipush 8, 2) := by decide +kernel
theorem dX13_signalled_51 : decode cX13_signalled 51 = .ok (.iload_n 1, 1) := by decide +kernel
theorem dX13_signalled_52 : decode cX13_signalled 52 = .ok (.imul, 1) := by decide +kernel
theorem dX13_signalled_53 : decode cX13_signalled 53 = .ok (.iload 4, 2) := by decide +kernel
theorem dX13_signalled_55 : decode cX13_signalled 55 = .ok (.iadd, 1) := by decide +kernel
theorem dX13_signalled_56 : decode cX13_signalled 56 = .ok (.iaload, 1) := by decide +kernel
theorem dX13_signalled_57 : decode cX13_signalled 57 = .ok (.iastore, 1) := by decide +kernel
theorem dX13_signalled_58 : decode cX13_signalled 58 = .ok (.iinc 3 1, 3) := by decide +kernel
theorem dX13_signalled_61 : decode cX13_signalled 61 = .ok (.iinc 4 1, 3) := by decide +kernel
theorem dX13_signalled_64 : decode cX13_signalled 64 = .ok (.goto (-59), 3) := by decide +kernel
theorem dX13_signalled_67 : decode cX13_signalled 67 = .ok (.aload_n 0, 1) := by decide +kernel
theorem dX13_signalled_68 : decode cX13_signalled 68 = .ok (.getfield 156, 3) := by decide +kernel
theorem dX13_signalled_71 : decode cX13_signalled 71 = .ok (.iload_n 1, 1) := by decide +kernel
theorem dX13_signalled_72 : decode cX13_signalled 72 = .ok (.iload_n 3, 1) := by decide +kernel
theorem dX13_signalled_73 : decode cX13_signalled 73 = .ok (.iastore, 1) := by decide +kernel
theorem dX13_signalled_74 : decode cX13_signalled 74 = .ok (.aload_n 0, 1) := by decide +kernel
theorem dX13_signalled_75 : decode cX13_signalled 75 = .ok (.getfield 123, 3) := by decide +kernel
theorem dX13_signalled_78 : decode cX13_signalled 78 = .ok (.iload_n 2, 1) := by decide +kernel
theorem dX13_signalled_79 : decode cX13_signalled 79 = .ok (.iconst 0, 1) := by decide +kernel
theorem dX13_signalled_80 : decode cX13_signalled 80 = .ok (.bastore, 1) := by decide +kernel
theorem dX13_signalled_81 : decode cX13_signalled 81 = .ok (.aload_n 0, 1) := by decide +kernel
theorem dX13_signalled_82 : decode cX13_signalled 82 = .ok (.getfield 144, 3) := by decide +kernel
theorem dX13_signalled_85 : decode cX13_signalled 85 = .ok (.iload_n 1, 1) := by decide +kernel
theorem dX13_signalled_86 : decode cX13_signalled 86 = .ok (.iaload, 1) := by decide +kernel
theorem dX13_signalled_87 : decode cX13_signalled 87 = .ok (.ifCond .ge 16, 3) := by decide +kernel
theorem dX13_signalled_90 : decode cX13_signalled 90 = .ok (.aload_n 0, 1) := by decide +kernel
theorem dX13_signalled_91 : decode cX13_signalled 91 = .ok (.getfield 150, 3) := by decide +kernel
theorem dX13_signalled_94 : decode cX13_signalled 94 = .ok (.iload_n 1, 1) := by decide +kernel
theorem dX13_signalled_95 : decode cX13_signalled 95 = .ok (.iaload, 1) := by decide +kernel
theorem dX13_signalled_96 : decode cX13_signalled 96 = .ok (.ifCond .ne 7, 3) := by decide +kernel
theorem dX13_signalled_99 : decode cX13_signalled 99 = .ok (.iconst 1, 1) := by decide +kernel
theorem dX13_signalled_100 : decode cX13_signalled 100 = .ok (.goto 4, 3) := by decide +kernel
theorem dX13_signalled_103 : decode cX13_signalled 103 = .ok (.iconst 0, 1) := by decide +kernel
theorem dX13_signalled_104 : decode cX13_signalled 104 = .ok (.istore 4, 2) := by decide +kernel
theorem dX13_signalled_106 : decode cX13_signalled 106 = .ok (.aload_n 0, 1) := by decide +kernel
theorem dX13_signalled_107 : decode cX13_signalled 107 = .ok (.iload_n 2, 1) := by decide +kernel
theorem dX13_signalled_108 : decode cX13_signalled 108 = .ok (.iload_n 1, 1) := by decide +kernel
theorem dX13_signalled_109 : decode cX13_signalled 109 = .ok (.invokevirtual 239, 3) := by decide +kernel
theorem dX13_signalled_112 : decode cX13_signalled 112 = .ok (.iload 4, 2) := by decide +kernel
theorem dX13_signalled_114 : decode cX13_signalled 114 = .ok (.ifCond .eq 8, 3) := by decide +kernel
theorem dX13_signalled_117 : decode cX13_signalled 117 = .ok (.aload_n 0, 1) := by decide +kernel
theorem dX13_signalled_118 : decode cX13_signalled 118 = .ok (.iload_n 1, 1) := by decide +kernel
theorem dX13_signalled_119 : decode cX13_signalled 119 = .ok (.invokevirtual 242, 3) := by decide +kernel
theorem dX13_signalled_122 : decode cX13_signalled 122 = .ok (.return_, 1) := by decide +kernel
theorem dX13_rowOf_0 : decode cX13_rowOf 0 = .ok (.iconst 0, 1) := by decide +kernel
theorem dX13_rowOf_1 : decode cX13_rowOf 1 = .ok (.istore_n 2, 1) := by decide +kernel
theorem dX13_rowOf_2 : decode cX13_rowOf 2 = .ok (.iload_n 2, 1) := by decide +kernel
theorem dX13_rowOf_3 : decode cX13_rowOf 3 = .ok (.bipush 24, 2) := by decide +kernel
theorem dX13_rowOf_5 : decode cX13_rowOf 5 = .ok (.if_icmp .ge 57, 3) := by decide +kernel
theorem dX13_rowOf_8 : decode cX13_rowOf 8 = .ok (.aload_n 0, 1) := by decide +kernel
theorem dX13_rowOf_9 : decode cX13_rowOf 9 = .ok (.getfield 135, 3) := by decide +kernel
theorem dX13_rowOf_12 : decode cX13_rowOf 12 = .ok (.iload_n 2, 1) := by decide +kernel
theorem dX13_rowOf_13 : decode cX13_rowOf 13 = .ok (.iaload, 1) := by decide +kernel
theorem dX13_rowOf_14 : decode cX13_rowOf 14 = .ok (.iconst 1, 1) := by decide +kernel
theorem dX13_rowOf_15 : decode cX13_rowOf 15 = .ok (.if_icmp .eq 6, 3) := by decide +kernel
theorem dX13_rowOf_18 : decode cX13_rowOf 18 = .ok (.goto 38, 3) := by decide +kernel
theorem dX13_rowOf_21 : decode cX13_rowOf 21 = .ok (.iconst 0, 1) := by decide +kernel
theorem dX13_rowOf_22 : decode cX13_rowOf 22 = .ok (.istore_n 3, 1) := by decide +kernel
theorem dX13_rowOf_23 : decode cX13_rowOf 23 = .ok (.iload_n 3, 1) := by decide +kernel
theorem dX13_rowOf_24 : decode cX13_rowOf 24 = .ok (.aload_n 0, 1) := by decide +kernel
theorem dX13_rowOf_25 : decode cX13_rowOf 25 = .ok (.getfield 150, 3) := by decide +kernel
theorem dX13_rowOf_28 : decode cX13_rowOf 28 = .ok (.iload_n 2, 1) := by decide +kernel
theorem dX13_rowOf_29 : decode cX13_rowOf 29 = .ok (.iaload, 1) := by decide +kernel
theorem dX13_rowOf_30 : decode cX13_rowOf 30 = .ok (.if_icmp .ge 26, 3) := by decide +kernel
theorem dX13_rowOf_33 : decode cX13_rowOf 33 = .ok (.aload_n 0, 1) := by decide +kernel
theorem dX13_rowOf_34 : decode cX13_rowOf 34 = .ok (.getfield 147, 3) := by decide +kernel
theorem dX13_rowOf_37 : decode cX13_rowOf 37 = .ok (.bipush 8, 2) := by decide +kernel
theorem dX13_rowOf_39 : decode cX13_rowOf 39 = .ok (.iload_n 2, 1) := by decide +kernel
theorem dX13_rowOf_40 : decode cX13_rowOf 40 = .ok (.imul, 1) := by decide +kernel
theorem dX13_rowOf_41 : decode cX13_rowOf 41 = .ok (.iload_n 3, 1) := by decide +kernel
theorem dX13_rowOf_42 : decode cX13_rowOf 42 = .ok (.iadd, 1) := by decide +kernel
theorem dX13_rowOf_43 : decode cX13_rowOf 43 = .ok (.iaload, 1) := by decide +kernel
theorem dX13_rowOf_44 : decode cX13_rowOf 44 = .ok (.iload_n 1, 1) := by decide +kernel
theorem dX13_rowOf_45 : decode cX13_rowOf 45 = .ok (.if_icmp .ne 5, 3) := by decide +kernel
theorem dX13_rowOf_48 : decode cX13_rowOf 48 = .ok (.iload_n 2, 1) := by decide +kernel
theorem dX13_rowOf_49 : decode cX13_rowOf 49 = .ok (.ireturn, 1) := by decide +kernel
theorem dX13_rowOf_50 : decode cX13_rowOf 50 = .ok (.iinc 3 1, 3) := by decide +kernel
theorem dX13_rowOf_53 : decode cX13_rowOf 53 = .ok (.goto (-30), 3) := by decide +kernel
theorem dX13_rowOf_56 : decode cX13_rowOf 56 = .ok (.iinc 2 1, 3) := by decide +kernel
theorem dX13_rowOf_59 : decode cX13_rowOf 59 = .ok (.goto (-57), 3) := by decide +kernel
theorem dX13_rowOf_62 : decode cX13_rowOf 62 = .ok (.iconst (-1), 1) := by decide +kernel
theorem dX13_rowOf_63 : decode cX13_rowOf 63 = .ok (.ireturn, 1) := by decide +kernel
theorem dX13_kindOf_0 : decode cX13_kindOf 0 = .ok (.iload_n 0, 1) := by decide +kernel
theorem dX13_kindOf_1 : decode cX13_kindOf 1 = .ok (.bipush 12, 2) := by decide +kernel
theorem dX13_kindOf_3 : decode cX13_kindOf 3 = .ok (.if_icmp .gt 5, 3) := by decide +kernel
theorem dX13_kindOf_6 : decode cX13_kindOf 6 = .ok (.iconst 1, 1) := by decide +kernel
theorem dX13_kindOf_7 : decode cX13_kindOf 7 = .ok (.ireturn, 1) := by decide +kernel
theorem dX13_kindOf_8 : decode cX13_kindOf 8 = .ok (.iload_n 0, 1) := by decide +kernel
theorem dX13_kindOf_9 : decode cX13_kindOf 9 = .ok (.bipush 16, 2) := by decide +kernel
theorem dX13_kindOf_11 : decode cX13_kindOf 11 = .ok (.if_icmp .gt 6, 3) := by decide +kernel
theorem dX13_kindOf_14 : decode cX13_kindOf 14 = .ok (.bipush 6, 2) := by decide +kernel
theorem dX13_kindOf_16 : decode cX13_kindOf 16 = .ok (.ireturn, 1) := by decide +kernel
theorem dX13_kindOf_17 : decode cX13_kindOf 17 = .ok (.iload_n 0, 1) := by decide +kernel
theorem dX13_kindOf_18 : decode cX13_kindOf 18 = .ok (.bipush 19, 2) := by decide +kernel
theorem dX13_kindOf_20 : decode cX13_kindOf 20 = .ok (.if_icmp .gt 5, 3) := by decide +kernel
theorem dX13_kindOf_23 : decode cX13_kindOf 23 = .ok (.iconst 2, 1) := by decide +kernel
theorem dX13_kindOf_24 : decode cX13_kindOf 24 = .ok (.ireturn, 1) := by decide +kernel
theorem dX13_kindOf_25 : decode cX13_kindOf 25 = .ok (.iload_n 0, 1) := by decide +kernel
theorem dX13_kindOf_26 : decode cX13_kindOf 26 = .ok (.bipush 21, 2) := by decide +kernel
theorem dX13_kindOf_28 : decode cX13_kindOf 28 = .ok (.if_icmp .gt 5, 3) := by decide +kernel
theorem dX13_kindOf_31 : decode cX13_kindOf 31 = .ok (.iconst 3, 1) := by decide +kernel
theorem dX13_kindOf_32 : decode cX13_kindOf 32 = .ok (.ireturn, 1) := by decide +kernel
theorem dX13_kindOf_33 : decode cX13_kindOf 33 = .ok (.iload_n 0, 1) := by decide +kernel
theorem dX13_kindOf_34 : decode cX13_kindOf 34 = .ok (.bipush 22, 2) := by decide +kernel
theorem dX13_kindOf_36 : decode cX13_kindOf 36 = .ok (.if_icmp .ne 5, 3) := by decide +kernel
theorem dX13_kindOf_39 : decode cX13_kindOf 39 = .ok (.iconst 4, 1) := by decide +kernel
theorem dX13_kindOf_40 : decode cX13_kindOf 40 = .ok (.ireturn, 1) := by decide +kernel
theorem dX13_kindOf_41 : decode cX13_kindOf 41 = .ok (.iload_n 0, 1) := by decide +kernel
theorem dX13_kindOf_42 : decode cX13_kindOf 42 = .ok (.bipush 26, 2) := by decide +kernel
theorem dX13_kindOf_44 : decode cX13_kindOf 44 = .ok (.if_icmp .gt 5, 3) := by decide +kernel
theorem dX13_kindOf_47 : decode cX13_kindOf 47 = .ok (.iconst 5, 1) := by decide +kernel
theorem dX13_kindOf_48 : decode cX13_kindOf 48 = .ok (.ireturn, 1) := by decide +kernel
theorem dX13_kindOf_49 : decode cX13_kindOf 49 = .ok (.iload_n 0, 1) := by decide +kernel
theorem dX13_kindOf_50 : decode cX13_kindOf 50 = .ok (.bipush 28, 2) := by decide +kernel
theorem dX13_kindOf_52 : decode cX13_kindOf 52 = .ok (.if_icmp .gt 8, 3) := by decide +kernel
theorem dX13_kindOf_55 : decode cX13_kindOf 55 = .ok (.bipush 7, 2) := by decide +kernel
theorem dX13_kindOf_57 : decode cX13_kindOf 57 = .ok (.goto 5, 3) := by decide +kernel
theorem dX13_kindOf_60 : decode cX13_kindOf 60 = .ok (.bipush 8, 2) := by decide +kernel
theorem dX13_kindOf_62 : decode cX13_kindOf 62 = .ok (.ireturn, 1) := by decide +kernel
theorem dX13_passes_0 : decode cX13_passes 0 = .ok (.aload_n 0, 1) := by decide +kernel
theorem dX13_passes_1 : decode cX13_passes 1 = .ok (.getfield 119, 3) := by decide +kernel
theorem dX13_passes_4 : decode cX13_passes 4 = .ok (.iload_n 1, 1) := by decide +kernel
theorem dX13_passes_5 : decode cX13_passes 5 = .ok (.baload, 1) := by decide +kernel
theorem dX13_passes_6 : decode cX13_passes 6 = .ok (.ifCond .eq 20, 3) := by decide +kernel
theorem dX13_passes_9 : decode cX13_passes 9 = .ok (.aload_n 0, 1) := by decide +kernel
theorem dX13_passes_10 : decode cX13_passes 10 = .ok (.getfield 119, 3) := by decide +kernel
theorem dX13_passes_13 : decode cX13_passes 13 = .ok (.iload_n 1, 1) := by decide +kernel
theorem dX13_passes_14 : decode cX13_passes 14 = .ok (.iconst 0, 1) := by decide +kernel
theorem dX13_passes_15 : decode cX13_passes 15 = .ok (.bastore, 1) := by decide +kernel
theorem dX13_passes_16 : decode cX13_passes 16 = .ok (.aload_n 0, 1) := by decide +kernel
theorem dX13_passes_17 : decode cX13_passes 17 = .ok (.getfield 101, 3) := by decide +kernel
theorem dX13_passes_20 : decode cX13_passes 20 = .ok (.iload_n 1, 1) := by decide +kernel
theorem dX13_passes_21 : decode cX13_passes 21 = .ok (.bipush (-2), 2) := by decide +kernel
theorem dX13_passes_23 : decode cX13_passes 23 = .ok (.iastore, 1) := by decide +kernel
theorem dX13_passes_24 : decode cX13_passes 24 = .ok (.iconst 1, 1) := by decide +kernel
theorem dX13_passes_25 : decode cX13_passes 25 = .ok (.ireturn, 1) := by decide +kernel
theorem dX13_passes_26 : decode cX13_passes 26 = .ok (.aload_n 0, 1) := by decide +kernel
theorem dX13_passes_27 : decode cX13_passes 27 = .ok (.iload_n 1, 1) := by decide +kernel
theorem dX13_passes_28 : decode cX13_passes 28 = .ok (.iload_n 2, 1) := by decide +kernel
theorem dX13_passes_29 : decode cX13_passes 29 = .ok (.invokevirtual 239, 3) := by decide +kernel
theorem dX13_passes_32 : decode cX13_passes 32 = .ok (.iconst 0, 1) := by decide +kernel
theorem dX13_passes_33 : decode cX13_passes 33 = .ok (.ireturn, 1) := by decide +kernel
theorem dX13_one_0 : decode cX13_one 0 = .ok (.aload_n 0, 1) := by decide +kernel
theorem dX13_one_1 : decode cX13_one 1 = .ok (.iload_n 1, 1) := by decide +kernel
theorem dX13_one_2 : decode cX13_one 2 = .ok (.putfield 132, 3) := by decide +kernel
theorem dX13_one_5 : decode cX13_one 5 = .ok (.aload_n 0, 1) := by decide +kernel
theorem dX13_one_6 : decode cX13_one 6 = .ok (.dup, 1) := by decide +kernel
theorem dX13_one_7 : decode cX13_one 7 = .ok (.getfield 245, 3) := by decide +kernel
theorem dX13_one_10 : decode cX13_one 10 = .ok (.lconst 1, 1) := by decide +kernel
theorem dX13_one_11 : decode cX13_one 11 = .ok (.ladd, 1) := by decide +kernel
theorem dX13_one_12 : decode cX13_one 12 = .ok (.putfield 245, 3) := by decide +kernel
theorem dX13_one_15 : decode cX13_one 15 = .ok (.aload_n 0, 1) := by decide +kernel
theorem dX13_one_16 : decode cX13_one 16 = .ok (.iload_n 1, 1) := by decide +kernel
theorem dX13_one_17 : decode cX13_one 17 = .ok (.invokevirtual 249, 3) := by decide +kernel
theorem dX13_one_20 : decode cX13_one 20 = .ok (.istore_n 2, 1) := by decide +kernel
theorem dX13_one_21 : decode cX13_one 21 = .ok (.iload_n 2, 1) := by decide +kernel
theorem dX13_one_22 : decode cX13_one 22 = .ok (.ifCond .lt 36, 3) := by decide +kernel
theorem dX13_one_25 : decode cX13_one 25 = .ok (.aload_n 0, 1) := by decide +kernel
theorem dX13_one_26 : decode cX13_one 26 = .ok (.getfield 144, 3) := by decide +kernel
theorem dX13_one_29 : decode cX13_one 29 = .ok (.iload_n 2, 1) := by decide +kernel
theorem dX13_one_30 : decode cX13_one 30 = .ok (.iaload, 1) := by decide +kernel
theorem dX13_one_31 : decode cX13_one 31 = .ok (.ifCond .ge 12, 3) := by decide +kernel
theorem dX13_one_34 : decode cX13_one 34 = .ok (.aload_n 0, 1) := by decide +kernel
theorem dX13_one_35 : decode cX13_one 35 = .ok (.iload_n 2, 1) := by decide +kernel
theorem dX13_one_36 : decode cX13_one 36 = .ok (.iload_n 1, 1) := by decide +kernel
theorem dX13_one_37 : decode cX13_one 37 = .ok (.invokevirtual 236, 3) := by decide +kernel
theorem dX13_one_40 : decode cX13_one 40 = .ok (.goto 17, 3) := by decide +kernel
theorem dX13_one_43 : decode cX13_one 43 = .ok (.aload_n 0, 1) := by decide +kernel
theorem dX13_one_44 : decode cX13_one 44 = .ok (.getfield 98, 3) := by decide +kernel
theorem dX13_one_47 : decode cX13_one 47 = .ok (.iload_n 1, 1) := by decide +kernel
theorem dX13_one_48 : decode cX13_one 48 = .ok (.iconst 2, 1) := by decide +kernel
theorem dX13_one_49 : decode cX13_one 49 = .ok (.iastore, 1) := by decide +kernel
theorem dX13_one_50 : decode cX13_one 50 = .ok (.aload_n 0, 1) := by decide +kernel
theorem dX13_one_51 : decode cX13_one 51 = .ok (.getfield 107, 3) := by decide +kernel
theorem dX13_one_54 : decode cX13_one 54 = .ok (.iload_n 1, 1) := by decide +kernel
theorem dX13_one_55 : decode cX13_one 55 = .ok (.iload_n 2, 1) := by decide +kernel
theorem dX13_one_56 : decode cX13_one 56 = .ok (.iastore, 1) := by decide +kernel
theorem dX13_one_57 : decode cX13_one 57 = .ok (.return_, 1) := by decide +kernel
theorem dX13_one_58 : decode cX13_one 58 = .ok (.aload_n 0, 1) := by decide +kernel
theorem dX13_one_59 : decode cX13_one 59 = .ok (.iload_n 1, 1) := by decide +kernel
theorem dX13_one_60 : decode cX13_one 60 = .ok (.iconst 0, 1) := by decide +kernel
theorem dX13_one_61 : decode cX13_one 61 = .ok (.invokevirtual 252, 3) := by decide +kernel
theorem dX13_one_64 : decode cX13_one 64 = .ok (.istore_n 3, 1) := by decide +kernel
theorem dX13_one_65 : decode cX13_one 65 = .ok (.aload_n 0, 1) := by decide +kernel
theorem dX13_one_66 : decode cX13_one 66 = .ok (.iload_n 1, 1) := by decide +kernel
theorem dX13_one_67 : decode cX13_one 67 = .ok (.iconst 1, 1) := by decide +kernel
theorem dX13_one_68 : decode cX13_one 68 = .ok (.invokevirtual 252, 3) := by decide +kernel
theorem dX13_one_71 : decode cX13_one 71 = .ok (.istore 4, 2) := by decide +kernel
theorem dX13_one_73 : decode cX13_one 73 = .ok (.aload_n 0, 1) := by decide +kernel
theorem dX13_one_74 : decode cX13_one 74 = .ok (.getfield 104, 3) := by decide +kernel
theorem dX13_one_77 : decode cX13_one 77 = .ok (.iload_n 1, 1) := by decide +kernel
theorem dX13_one_78 : decode cX13_one 78 = .ok (.iaload, 1) := by decide +kernel
theorem dX13_one_79 : decode cX13_one 79 = .ok (.iconst 1, 1) := by decide +kernel
theorem dX13_one_80 : decode cX13_one 80 = .ok (.iadd, 1) := by decide +kernel
theorem dX13_one_81 : decode cX13_one 81 = .ok (.istore 5, 2) := by decide +kernel
theorem dX13_one_83 : decode cX13_one 83 = .ok (.iload_n 3, 1) := by decide +kernel
theorem dX13_one_84 : decode cX13_one 84 = .ok (.ifCond .ne 14, 3) := by decide +kernel
theorem dX13_one_87 : decode cX13_one 87 = .ok (.aload_n 0, 1) := by decide +kernel
theorem dX13_one_88 : decode cX13_one 88 = .ok (.getfield 101, 3) := by decide +kernel
theorem dX13_one_91 : decode cX13_one 91 = .ok (.iload_n 1, 1) := by decide +kernel
theorem dX13_one_92 : decode cX13_one 92 = .ok (.iload 4, 2) := by decide +kernel
theorem dX13_one_94 : decode cX13_one 94 = .ok (.iastore, 1) := by decide +kernel
theorem dX13_one_95 : decode cX13_one 95 = .ok (.goto 178, 3) := by decide +kernel
theorem dX13_one_98 : decode cX13_one 98 = .ok (.iload_n 3, 1) := by decide +kernel
theorem dX13_one_99 : decode cX13_one 99 = .ok (.iconst 1, 1) := by decide +kernel
theorem dX13_one_100 : decode cX13_one 100 = .ok (.if_icmp .ne 17, 3) := by decide +kernel
theorem dX13_one_103 : decode cX13_one 103 = .ok (.aload_n 0, 1) := by decide +kernel
theorem dX13_one_104 : decode cX13_one 104 = .ok (.getfield 101, 3) := by decide +kernel
theorem dX13_one_107 : decode cX13_one 107 = .ok (.iload_n 1, 1) := by decide +kernel
theorem dX13_one_108 : decode cX13_one 108 = .ok (.dup2, 1) := by decide +kernel
theorem dX13_one_109 : decode cX13_one 109 = .ok (.iaload, 1) := by decide +kernel
theorem dX13_one_110 : decode cX13_one 110 = .ok (.iload 4, 2) := by decide +kernel
theorem dX13_one_112 : decode cX13_one 112 = .ok (.iadd, 1) := by decide +kernel
theorem dX13_one_113 : decode cX13_one 113 = .ok (.iastore, 1) := by decide +kernel
theorem dX13_one_114 : decode cX13_one 114 = .ok (.goto 159, 3) := by decide +kernel
theorem dX13_one_117 : decode cX13_one 117 = .ok (.iload_n 3, 1) := by decide +kernel
theorem dX13_one_118 : decode cX13_one 118 = .ok (.iconst 2, 1) := by decide +kernel
theorem dX13_one_119 : decode cX13_one 119 = .ok (.if_icmp .eq 31, 3) := by decide +kernel
theorem dX13_one_122 : decode cX13_one 122 = .ok (.iload_n 3, 1) := by decide +kernel
theorem dX13_one_123 : decode cX13_one 123 = .ok (.iconst 3, 1) := by decide +kernel
theorem dX13_one_124 : decode cX13_one 124 = .ok (.if_icmp .ne 12, 3) := by decide +kernel
theorem dX13_one_127 : decode cX13_one 127 = .ok (.aload_n 0, 1) := by decide +kernel
theorem dX13_one_128 : decode cX13_one 128 = .ok (.getfield 101, 3) := by decide +kernel
theorem dX13_one_131 : decode cX13_one 131 = .ok (.iload_n 1, 1) := by decide +kernel
theorem dX13_one_132 : decode cX13_one 132 = .ok (.iaload, 1) := by decide +kernel
theorem dX13_one_133 : decode cX13_one 133 = .ok (.ifCond .eq 17, 3) := by decide +kernel
theorem dX13_one_136 : decode cX13_one 136 = .ok (.iload_n 3, 1) := by decide +kernel
theorem dX13_one_137 : decode cX13_one 137 = .ok (.iconst 4, 1) := by decide +kernel
theorem dX13_one_138 : decode cX13_one 138 = .ok (.if_icmp .ne 19, 3) := by decide +kernel
theorem dX13_one_141 : decode cX13_one 141 = .ok (.aload_n 0, 1) := by decide +kernel
theorem dX13_one_142 : decode cX13_one 142 = .ok (.getfield 101, 3) := by decide +kernel
theorem dX13_one_145 : decode cX13_one 145 = .ok (.iload_n 1, 1) := by decide +kernel
theorem dX13_one_146 : decode cX13_one 146 = .ok (.iaload, 1) := by decide +kernel
theorem dX13_one_147 : decode cX13_one 147 = .ok (.ifCond .ge 10, 3) := by decide +kernel
theorem dX13_one_150 : decode cX13_one 150 = .ok (.iload 4, 2) := by decide +kernel
theorem dX13_one_152 : decode cX13_one 152 = .ok (.istore 5, 2) := by decide +kernel
theorem dX13_one_154 : decode cX13_one 154 = .ok (.goto 119, 3) := by decide +kernel
theorem dX13_one_157 : decode cX13_one 157 = .ok (.iload_n 3, 1) := by decide +kernel
theorem dX13_one_158 : decode cX13_one 158 = .ok (.iconst 5, 1) := by decide +kernel
theorem dX13_one_159 : decode cX13_one 159 = .ok (.if_icmp .ne 62, 3) := by decide +kernel
theorem dX13_one_162 : decode cX13_one 162 = .ok (.iload 4, 2) := by decide +kernel
theorem dX13_one_164 : decode cX13_one 164 = .ok (.ifCond .le 34, 3) := by decide +kernel
theorem dX13_one_167 : decode cX13_one 167 = .ok (.aload_n 0, 1) := by decide +kernel
theorem dX13_one_168 : decode cX13_one 168 = .ok (.getfield 119, 3) := by decide +kernel
theorem dX13_one_171 : decode cX13_one 171 = .ok (.iload_n 1, 1) := by decide +kernel
theorem dX13_one_172 : decode cX13_one 172 = .ok (.baload, 1) := by decide +kernel
theorem dX13_one_173 : decode cX13_one 173 = .ok (.ifCond .ne 25, 3) := by decide +kernel
theorem dX13_one_176 : decode cX13_one 176 = .ok (.aload_n 0, 1) := by decide +kernel
theorem dX13_one_177 : decode cX13_one 177 = .ok (.getfield 98, 3) := by decide +kernel
theorem dX13_one_180 : decode cX13_one 180 = .ok (.iload_n 1, 1) := by decide +kernel
theorem dX13_one_181 : decode cX13_one 181 = .ok (.iconst 3, 1) := by decide +kernel
theorem dX13_one_182 : decode cX13_one 182 = .ok (.iastore, 1) := by decide +kernel
theorem dX13_one_183 : decode cX13_one 183 = .ok (.aload_n 0, 1) := by decide +kernel
theorem dX13_one_184 : decode cX13_one 184 = .ok (.getfield 129, 3) := by decide +kernel
theorem dX13_one_187 : decode cX13_one 187 = .ok (.iload_n 1, 1) := by decide +kernel
theorem dX13_one_188 : decode cX13_one 188 = .ok (.aload_n 0, 1) := by decide +kernel
theorem dX13_one_189 : decode cX13_one 189 = .ok (.getfield 255, 3) := by decide +kernel
theorem dX13_one_192 : decode cX13_one 192 = .ok (.iload 4, 2) := by decide +kernel
theorem dX13_one_194 : decode cX13_one 194 = .ok (.i2l, 1) := by decide +kernel
theorem dX13_one_195 : decode cX13_one 195 = .ok (.ladd, 1) := by decide +kernel
theorem dX13_one_196 : decode cX13_one 196 = .ok (.lastore, 1) := by decide +kernel
theorem dX13_one_197 : decode cX13_one 197 = .ok (.return_, 1) := by decide +kernel
theorem dX13_one_198 : decode cX13_one 198 = .ok (.iload 4, 2) := by decide +kernel
theorem dX13_one_200 : decode cX13_one 200 = .ok (.ifCond .le 73, 3) := by decide +kernel
theorem dX13_one_203 : decode cX13_one 203 = .ok (.aload_n 0, 1) := by decide +kernel
theorem dX13_one_204 : decode cX13_one 204 = .ok (.getfield 119, 3) := by decide +kernel
theorem dX13_one_207 : decode cX13_one 207 = .ok (.iload_n 1, 1) := by decide +kernel
theorem dX13_one_208 : decode cX13_one 208 = .ok (.iconst 0, 1) := by decide +kernel
theorem dX13_one_209 : decode cX13_one 209 = .ok (.bastore, 1) := by decide +kernel
theorem dX13_one_210 : decode cX13_one 210 = .ok (.aload_n 0, 1) := by decide +kernel
theorem dX13_one_211 : decode cX13_one 211 = .ok (.getfield 101, 3) := by decide +kernel
theorem dX13_one_214 : decode cX13_one 214 = .ok (.iload_n 1, 1) := by decide +kernel
theorem dX13_one_215 : decode cX13_one 215 = .ok (.bipush (-2), 2) := by decide +kernel
theorem dX13_one_217 : decode cX13_one 217 = .ok (.iastore, 1) := by decide +kernel
theorem dX13_one_218 : decode cX13_one 218 = .ok (.goto 55, 3) := by decide +kernel
theorem dX13_one_221 : decode cX13_one 221 = .ok (.iload_n 3, 1) := by decide +kernel
theorem dX13_one_222 : decode cX13_one 222 = .ok (.bipush 6, 2) := by decide +kernel
theorem dX13_one_224 : decode cX13_one 224 = .ok (.if_icmp .ne 11, 3) := by decide +kernel
theorem dX13_one_227 : decode cX13_one 227 = .ok (.aload_n 0, 1) := by decide +kernel
theorem dX13_one_228 : decode cX13_one 228 = .ok (.getfield 98, 3) := by decide +kernel
theorem dX13_one_231 : decode cX13_one 231 = .ok (.iload_n 1, 1) := by decide +kernel
theorem dX13_one_232 : decode cX13_one 232 = .ok (.iconst 4, 1) := by decide +kernel
theorem dX13_one_233 : decode cX13_one 233 = .ok (.iastore, 1) := by decide +kernel
theorem dX13_one_234 : decode cX13_one 234 = .ok (.return_, 1) := by decide +kernel
theorem dX13_one_235 : decode cX13_one 235 = .ok (.iload_n 3, 1) := by decide +kernel
theorem dX13_one_236 : decode cX13_one 236 = .ok (.bipush 33, 2) := by decide +kernel
theorem dX13_one_238 : decode cX13_one 238 = .ok (.if_icmp .ne 17, 3) := by decide +kernel
theorem dX13_one_241 : decode cX13_one 241 = .ok (.aload_n 0, 1) := by decide +kernel
theorem dX13_one_242 : decode cX13_one 242 = .ok (.getfield 101, 3) := by decide +kernel
theorem dX13_one_245 : decode cX13_one 245 = .ok (.iload_n 1, 1) := by decide +kernel
theorem dX13_one_246 : decode cX13_one 246 = .ok (.aload_n 0, 1) := by decide +kernel
theorem dX13_one_247 : decode cX13_one 247 = .ok (.getfield 255, 3) := by decide +kernel
theorem dX13_one_250 : decode cX13_one 250 = .ok (.l2i, 1) := by decide +kernel
theorem dX13_one_251 : decode cX13_one 251 = .ok (.iastore, 1) := by decide +kernel
theorem dX13_one_252 : decode cX13_one 252 = .ok (.goto 21, 3) := by decide +kernel
theorem dX13_one_255 : decode cX13_one 255 = .ok (.iload_n 3, 1) := by decide +kernel
theorem dX13_one_256 : decode cX13_one 256 = .ok (.bipush 6, 2) := by decide +kernel
theorem dX13_one_258 : decode cX13_one 258 = .ok (.if_icmp .le 15, 3) := by decide +kernel
theorem dX13_one_261 : decode cX13_one 261 = .ok (.aload_n 0, 1) := by decide +kernel
theorem dX13_one_262 : decode cX13_one 262 = .ok (.iload_n 1, 1) := by decide +kernel
theorem dX13_one_263 : decode cX13_one 263 = .ok (.iload_n 3, 1) := by decide +kernel
theorem dX13_one_264 : decode cX13_one 264 = .ok (.iload 4, 2) := by decide +kernel
theorem dX13_one_266 : decode cX13_one 266 = .ok (.invokevirtual 258, 3) := by decide +kernel
theorem dX13_one_269 : decode cX13_one 269 = .ok (.ifCond .ne 4, 3) := by decide +kernel
theorem dX13_one_272 : decode cX13_one 272 = .ok (.return_, 1) := by decide +kernel
theorem dX13_one_273 : decode cX13_one 273 = .ok (.aload_n 0, 1) := by decide +kernel
theorem dX13_one_274 : decode cX13_one 274 = .ok (.getfield 104, 3) := by decide +kernel
theorem dX13_one_277 : decode cX13_one 277 = .ok (.iload_n 1, 1) := by decide +kernel
theorem dX13_one_278 : decode cX13_one 278 = .ok (.iload 5, 2) := by decide +kernel
theorem dX13_one_280 : decode cX13_one 280 = .ok (.iastore, 1) := by decide +kernel
theorem dX13_one_281 : decode cX13_one 281 = .ok (.iload 5, 2) := by decide +kernel
theorem dX13_one_283 : decode cX13_one 283 = .ok (.aload_n 0, 1) := by decide +kernel
theorem dX13_one_284 : decode cX13_one 284 = .ok (.getfield 95, 3) := by decide +kernel
theorem dX13_one_287 : decode cX13_one 287 = .ok (.iload_n 1, 1) := by decide +kernel
theorem dX13_one_288 : decode cX13_one 288 = .ok (.iaload, 1) := by decide +kernel
theorem dX13_one_289 : decode cX13_one 289 = .ok (.if_icmp .lt 10, 3) := by decide +kernel
theorem dX13_one_292 : decode cX13_one 292 = .ok (.aload_n 0, 1) := by decide +kernel
theorem dX13_one_293 : decode cX13_one 293 = .ok (.getfield 98, 3) := by decide +kernel
theorem dX13_one_296 : decode cX13_one 296 = .ok (.iload_n 1, 1) := by decide +kernel
theorem dX13_one_297 : decode cX13_one 297 = .ok (.iconst 4, 1) := by decide +kernel
theorem dX13_one_298 : decode cX13_one 298 = .ok (.iastore, 1) := by decide +kernel
theorem dX13_one_299 : decode cX13_one 299 = .ok (.return_, 1) := by decide +kernel
theorem dX13_with_0 : decode cX13_with 0 = .ok (.aload_n 0, 1) := by decide +kernel
theorem dX13_with_1 : decode cX13_with 1 = .ok (.iload_n 3, 1) := by decide +kernel
theorem dX13_with_2 : decode cX13_with 2 = .ok (.invokevirtual 219, 3) := by decide +kernel
theorem dX13_with_5 : decode cX13_with 5 = .ok (.ifCond .eq 16, 3) := by decide +kernel
theorem dX13_with_8 : decode cX13_with 8 = .ok (.aload_n 0, 1) := by decide +kernel
theorem dX13_with_9 : decode cX13_with 9 = .ok (.getfield 135, 3) := by decide +kernel
theorem dX13_with_12 : decode cX13_with 12 = .ok (.iload_n 3, 1) := by decide +kernel
theorem dX13_with_13 : decode cX13_with 13 = .ok (.iaload, 1) := by decide +kernel
theorem dX13_with_14 : decode cX13_with 14 = .ok (.iload_n 2, 1) := by decide +kernel
theorem dX13_with_15 : decode cX13_with 15 = .ok (.invokestatic 261, 3) := by decide +kernel
theorem dX13_with_18 : decode cX13_with 18 = .ok (.if_icmp .eq 10, 3) := by decide +kernel
theorem dX13_with_21 : decode cX13_with 21 = .ok (.aload_n 0, 1) := by decide +kernel
theorem dX13_with_22 : decode cX13_with 22 = .ok (.iload_n 1, 1) := by decide +kernel
theorem dX13_with_23 : decode cX13_with 23 = .ok (.iconst 2, 1) := by decide +kernel
theorem dX13_with_24 : decode cX13_with 24 = .ok (.invokevirtual 264, 3) := by decide +kernel
theorem dX13_with_27 : decode cX13_with 27 = .ok (.ireturn, 1) := by decide +kernel
theorem dX13_with_28 : decode cX13_with 28 = .ok (.iload_n 2, 1) := by decide +kernel
theorem dX13_with_29 : decode cX13_with 29 = .ok (.bipush 12, 2) := by decide +kernel
theorem dX13_with_31 : decode cX13_with 31 = .ok (.if_icmp .gt 11, 3) := by decide +kernel
theorem dX13_with_34 : decode cX13_with 34 = .ok (.aload_n 0, 1) := by decide +kernel
theorem dX13_with_35 : decode cX13_with 35 = .ok (.iload_n 1, 1) := by decide +kernel
theorem dX13_with_36 : decode cX13_with 36 = .ok (.iload_n 2, 1) := by decide +kernel
theorem dX13_with_37 : decode cX13_with 37 = .ok (.iload_n 3, 1) := by decide +kernel
theorem dX13_with_38 : decode cX13_with 38 = .ok (.invokevirtual 268, 3) := by decide +kernel
theorem dX13_with_41 : decode cX13_with 41 = .ok (.ireturn, 1) := by decide +kernel
theorem dX13_with_42 : decode cX13_with 42 = .ok (.iload_n 2, 1) := by decide +kernel
theorem dX13_with_43 : decode cX13_with 43 = .ok (.bipush 16, 2) := by decide +kernel
theorem dX13_with_45 : decode cX13_with 45 = .ok (.if_icmp .gt 11, 3) := by decide +kernel
theorem dX13_with_48 : decode cX13_with 48 = .ok (.aload_n 0, 1) := by decide +kernel
theorem dX13_with_49 : decode cX13_with 49 = .ok (.iload_n 1, 1) := by decide +kernel
theorem dX13_with_50 : decode cX13_with 50 = .ok (.iload_n 2, 1) := by decide +kernel
theorem dX13_with_51 : decode cX13_with 51 = .ok (.iload_n 3, 1) := by decide +kernel
theorem dX13_with_52 : decode cX13_with 52 = .ok (.invokevirtual 271, 3) := by decide +kernel
theorem dX13_with_55 : decode cX13_with 55 = .ok (.ireturn, 1) := by decide +kernel
theorem dX13_with_56 : decode cX13_with 56 = .ok (.iload_n 2, 1) := by decide +kernel
theorem dX13_with_57 : decode cX13_with 57 = .ok (.bipush 19, 2) := by decide +kernel
theorem dX13_with_59 : decode cX13_with 59 = .ok (.if_icmp .gt 11, 3) := by decide +kernel
theorem dX13_with_62 : decode cX13_with 62 = .ok (.aload_n 0, 1) := by decide +kernel
theorem dX13_with_63 : decode cX13_with 63 = .ok (.iload_n 1, 1) := by decide +kernel
theorem dX13_with_64 : decode cX13_with 64 = .ok (.iload_n 2, 1) := by decide +kernel
theorem dX13_with_65 : decode cX13_with 65 = .ok (.iload_n 3, 1) := by decide +kernel
theorem dX13_with_66 : decode cX13_with 66 = .ok (.invokevirtual 274, 3) := by decide +kernel
theorem dX13_with_69 : decode cX13_with 69 = .ok (.ireturn, 1) := by decide +kernel
theorem dX13_with_70 : decode cX13_with 70 = .ok (.iload_n 2, 1) := by decide +kernel
theorem dX13_with_71 : decode cX13_with 71 = .ok (.bipush 29, 2) := by decide +kernel
theorem dX13_with_73 : decode cX13_with 73 = .ok (.if_icmp .lt 11, 3) := by decide +kernel
theorem dX13_with_76 : decode cX13_with 76 = .ok (.aload_n 0, 1) := by decide +kernel
theorem dX13_with_77 : decode cX13_with 77 = .ok (.iload_n 1, 1) := by decide +kernel
theorem dX13_with_78 : decode cX13_with 78 = .ok (.iload_n 2, 1) := by decide +kernel
theorem dX13_with_79 : decode cX13_with 79 = .ok (.iload_n 3, 1) := by decide +kernel
theorem dX13_with_80 : decode cX13_with 80 = .ok (.invokevirtual 277, 3) := by decide +kernel
theorem dX13_with_83 : decode cX13_with 83 = .ok (.ireturn, 1) := by decide +kernel
theorem dX13_with_84 : decode cX13_with 84 = .ok (.iload_n 2, 1) := by decide +kernel
theorem dX13_with_85 : decode cX13_with 85 = .ok (.bipush 23, 2) := by decide +kernel
theorem dX13_with_87 : decode cX13_with 87 = .ok (.if_icmp .lt 17, 3) := by decide +kernel
theorem dX13_with_90 : decode cX13_with 90 = .ok (.iload_n 2, 1) := by decide +kernel
theorem dX13_with_91 : decode cX13_with 91 = .ok (.bipush 26, 2) := by decide +kernel
theorem dX13_with_93 : decode cX13_with 93 = .ok (.if_icmp .gt 11, 3) := by decide +kernel
theorem dX13_with_96 : decode cX13_with 96 = .ok (.aload_n 0, 1) := by decide +kernel
theorem dX13_with_97 : decode cX13_with 97 = .ok (.iload_n 1, 1) := by decide +kernel
theorem dX13_with_98 : decode cX13_with 98 = .ok (.iload_n 2, 1) := by decide +kernel
theorem dX13_with_99 : decode cX13_with 99 = .ok (.iload_n 3, 1) := by decide +kernel
theorem dX13_with_100 : decode cX13_with 100 = .ok (.invokevirtual 280, 3) := by decide +kernel
theorem dX13_with_103 : decode cX13_with 103 = .ok (.ireturn, 1) := by decide +kernel
theorem dX13_with_104 : decode cX13_with 104 = .ok (.iload_n 2, 1) := by decide +kernel
theorem dX13_with_105 : decode cX13_with 105 = .ok (.bipush 20, 2) := by decide +kernel
theorem dX13_with_107 : decode cX13_with 107 = .ok (.if_icmp .ne 51, 3) := by decide +kernel
theorem dX13_with_110 : decode cX13_with 110 = .ok (.aload_n 0, 1) := by decide +kernel
theorem dX13_with_111 : decode cX13_with 111 = .ok (.getfield 138, 3) := by decide +kernel
theorem dX13_with_114 : decode cX13_with 114 = .ok (.iload_n 3, 1) := by decide +kernel
theorem dX13_with_115 : decode cX13_with 115 = .ok (.iaload, 1) := by decide +kernel
theorem dX13_with_116 : decode cX13_with 116 = .ok (.ifCond .le 40, 3) := by decide +kernel
theorem dX13_with_119 : decode cX13_with 119 = .ok (.aload_n 0, 1) := by decide +kernel
theorem dX13_with_120 : decode cX13_with 120 = .ok (.getfield 138, 3) := by decide +kernel
theorem dX13_with_123 : decode cX13_with 123 = .ok (.iload_n 3, 1) := by decide +kernel
theorem dX13_with_124 : decode cX13_with 124 = .ok (.dup2, 1) := by decide +kernel
theorem dX13_with_125 : decode cX13_with 125 = .ok (.iaload, 1) := by decide +kernel
theorem dX13_with_126 : decode cX13_with 126 = .ok (.iconst 1, 1) := by decide +kernel
theorem dX13_with_127 : decode cX13_with 127 = .ok (.isub, 1) := by decide +kernel
theorem dX13_with_128 : decode cX13_with 128 = .ok (.iastore, 1) := by decide +kernel
theorem dX13_with_129 : decode cX13_with 129 = .ok (.aload_n 0, 1) := by decide +kernel
theorem dX13_with_130 : decode cX13_with 130 = .ok (.getfield 138, 3) := by decide +kernel
theorem dX13_with_133 : decode cX13_with 133 = .ok (.iload_n 3, 1) := by decide +kernel
theorem dX13_with_134 : decode cX13_with 134 = .ok (.iaload, 1) := by decide +kernel
theorem dX13_with_135 : decode cX13_with 135 = .ok (.ifCond .ne 21, 3) := by decide +kernel
theorem dX13_with_138 : decode cX13_with 138 = .ok (.aload_n 0, 1) := by decide +kernel
theorem dX13_with_139 : decode cX13_with 139 = .ok (.getfield 150, 3) := by decide +kernel
theorem dX13_with_142 : decode cX13_with 142 = .ok (.iload_n 3, 1) := by decide +kernel
theorem dX13_with_143 : decode cX13_with 143 = .ok (.iaload, 1) := by decide +kernel
theorem dX13_with_144 : decode cX13_with 144 = .ok (.ifCond .le 12, 3) := by decide +kernel
theorem dX13_with_147 : decode cX13_with 147 = .ok (.aload_n 0, 1) := by decide +kernel
theorem dX13_with_148 : decode cX13_with 148 = .ok (.iload_n 3, 1) := by decide +kernel
theorem dX13_with_149 : decode cX13_with 149 = .ok (.invokevirtual 283, 3) := by decide +kernel
theorem dX13_with_152 : decode cX13_with 152 = .ok (.pop, 1) := by decide +kernel
theorem dX13_with_153 : decode cX13_with 153 = .ok (.goto (-24), 3) := by decide +kernel
theorem dX13_with_156 : decode cX13_with 156 = .ok (.iconst 1, 1) := by decide +kernel
theorem dX13_with_157 : decode cX13_with 157 = .ok (.ireturn, 1) := by decide +kernel
theorem dX13_with_158 : decode cX13_with 158 = .ok (.iload_n 2, 1) := by decide +kernel
theorem dX13_with_159 : decode cX13_with 159 = .ok (.bipush 21, 2) := by decide +kernel
theorem dX13_with_161 : decode cX13_with 161 = .ok (.if_icmp .ne 27, 3) := by decide +kernel
theorem dX13_with_164 : decode cX13_with 164 = .ok (.aload_n 0, 1) := by decide +kernel
theorem dX13_with_165 : decode cX13_with 165 = .ok (.getfield 138, 3) := by decide +kernel
theorem dX13_with_168 : decode cX13_with 168 = .ok (.iload_n 3, 1) := by decide +kernel
theorem dX13_with_169 : decode cX13_with 169 = .ok (.iaload, 1) := by decide +kernel
theorem dX13_with_170 : decode cX13_with 170 = .ok (.ifCond .eq 12, 3) := by decide +kernel
theorem dX13_with_173 : decode cX13_with 173 = .ok (.aload_n 0, 1) := by decide +kernel
theorem dX13_with_174 : decode cX13_with 174 = .ok (.iload_n 1, 1) := by decide +kernel
theorem dX13_with_175 : decode cX13_with 175 = .ok (.iload_n 3, 1) := by decide +kernel
theorem dX13_with_176 : decode cX13_with 176 = .ok (.invokevirtual 286, 3) := by decide +kernel
theorem dX13_with_179 : decode cX13_with 179 = .ok (.ifCond .eq 7, 3) := by decide +kernel
theorem dX13_with_182 : decode cX13_with 182 = .ok (.iconst 1, 1) := by decide +kernel
theorem dX13_with_183 : decode cX13_with 183 = .ok (.goto 4, 3) := by decide +kernel
theorem dX13_with_186 : decode cX13_with 186 = .ok (.iconst 0, 1) := by decide +kernel
theorem dX13_with_187 : decode cX13_with 187 = .ok (.ireturn, 1) := by decide +kernel
theorem dX13_with_188 : decode cX13_with 188 = .ok (.iload_n 2, 1) := by decide +kernel
theorem dX13_with_189 : decode cX13_with 189 = .ok (.bipush 22, 2) := by decide +kernel
theorem dX13_with_191 : decode cX13_with 191 = .ok (.if_icmp .ne 76, 3) := by decide +kernel
theorem dX13_with_194 : decode cX13_with 194 = .ok (.aload_n 0, 1) := by decide +kernel
theorem dX13_with_195 : decode cX13_with 195 = .ok (.getfield 138, 3) := by decide +kernel
theorem dX13_with_198 : decode cX13_with 198 = .ok (.iload_n 3, 1) := by decide +kernel
theorem dX13_with_199 : decode cX13_with 199 = .ok (.iaload, 1) := by decide +kernel
theorem dX13_with_200 : decode cX13_with 200 = .ok (.aload_n 0, 1) := by decide +kernel
theorem dX13_with_201 : decode cX13_with 201 = .ok (.getfield 150, 3) := by decide +kernel
theorem dX13_with_204 : decode cX13_with 204 = .ok (.iload_n 3, 1) := by decide +kernel
theorem dX13_with_205 : decode cX13_with 205 = .ok (.iaload, 1) := by decide +kernel
theorem dX13_with_206 : decode cX13_with 206 = .ok (.isub, 1) := by decide +kernel
theorem dX13_with_207 : decode cX13_with 207 = .ok (.iconst 1, 1) := by decide +kernel
theorem dX13_with_208 : decode cX13_with 208 = .ok (.isub, 1) := by decide +kernel
theorem dX13_with_209 : decode cX13_with 209 = .ok (.istore 4, 2) := by decide +kernel
theorem dX13_with_211 : decode cX13_with 211 = .ok (.iload 4, 2) := by decide +kernel
theorem dX13_with_213 : decode cX13_with 213 = .ok (.ifCond .le 27, 3) := by decide +kernel
theorem dX13_with_216 : decode cX13_with 216 = .ok (.aload_n 0, 1) := by decide +kernel
theorem dX13_with_217 : decode cX13_with 217 = .ok (.iload_n 1, 1) := by decide +kernel
theorem dX13_with_218 : decode cX13_with 218 = .ok (.iload_n 3, 1) := by decide +kernel
theorem dX13_with_219 : decode cX13_with 219 = .ok (.invokevirtual 286, 3) := by decide +kernel
theorem dX13_with_222 : decode cX13_with 222 = .ok (.istore 5, 2) := by decide +kernel
theorem dX13_with_224 : decode cX13_with 224 = .ok (.iload 5, 2) := by decide +kernel
theorem dX13_with_226 : decode cX13_with 226 = .ok (.ifCond .ne 11, 3) := by decide +kernel
theorem dX13_with_229 : decode cX13_with 229 = .ok (.aload_n 0, 1) := by decide +kernel
theorem dX13_with_230 : decode cX13_with 230 = .ok (.getfield 101, 3) := by decide +kernel
theorem dX13_with_233 : decode cX13_with 233 = .ok (.iload_n 1, 1) := by decide +kernel
theorem dX13_with_234 : decode cX13_with 234 = .ok (.iload 4, 2) := by decide +kernel
theorem dX13_with_236 : decode cX13_with 236 = .ok (.iastore, 1) := by decide +kernel
theorem dX13_with_237 : decode cX13_with 237 = .ok (.iload 5, 2) := by decide +kernel
theorem dX13_with_239 : decode cX13_with 239 = .ok (.ireturn, 1) := by decide +kernel
theorem dX13_with_240 : decode cX13_with 240 = .ok (.aload_n 0, 1) := by decide +kernel
theorem dX13_with_241 : decode cX13_with 241 = .ok (.getfield 101, 3) := by decide +kernel
theorem dX13_with_244 : decode cX13_with 244 = .ok (.iload_n 1, 1) := by decide +kernel
theorem dX13_with_245 : decode cX13_with 245 = .ok (.iconst 0, 1) := by decide +kernel
theorem dX13_with_246 : decode cX13_with 246 = .ok (.iastore, 1) := by decide +kernel
theorem dX13_with_247 : decode cX13_with 247 = .ok (.aload_n 0, 1) := by decide +kernel
theorem dX13_with_248 : decode cX13_with 248 = .ok (.getfield 150, 3) := by decide +kernel
theorem dX13_with_251 : decode cX13_with 251 = .ok (.iload_n 3, 1) := by decide +kernel
theorem dX13_with_252 : decode cX13_with 252 = .ok (.iaload, 1) := by decide +kernel
theorem dX13_with_253 : decode cX13_with 253 = .ok (.ifCond .le 12, 3) := by decide +kernel
theorem dX13_with_256 : decode cX13_with 256 = .ok (.aload_n 0, 1) := by decide +kernel
theorem dX13_with_257 : decode cX13_with 257 = .ok (.iload_n 3, 1) := by decide +kernel
theorem dX13_with_258 : decode cX13_with 258 = .ok (.invokevirtual 283, 3) := by decide +kernel
theorem dX13_with_261 : decode cX13_with 261 = .ok (.pop, 1) := by decide +kernel
theorem dX13_with_262 : decode cX13_with 262 = .ok (.goto (-15), 3) := by decide +kernel
theorem dX13_with_265 : decode cX13_with 265 = .ok (.iconst 1, 1) := by decide +kernel
theorem dX13_with_266 : decode cX13_with 266 = .ok (.ireturn, 1) := by decide +kernel
theorem dX13_with_267 : decode cX13_with 267 = .ok (.iload_n 2, 1) := by decide +kernel
theorem dX13_with_268 : decode cX13_with 268 = .ok (.bipush 27, 2) := by decide +kernel
theorem dX13_with_270 : decode cX13_with 270 = .ok (.if_icmp .ne 89, 3) := by decide +kernel
theorem dX13_with_273 : decode cX13_with 273 = .ok (.aload_n 0, 1) := by decide +kernel
theorem dX13_with_274 : decode cX13_with 274 = .ok (.getfield 141, 3) := by decide +kernel
theorem dX13_with_277 : decode cX13_with 277 = .ok (.iload_n 3, 1) := by decide +kernel
theorem dX13_with_278 : decode cX13_with 278 = .ok (.iaload, 1) := by decide +kernel
theorem dX13_with_279 : decode cX13_with 279 = .ok (.ifCond .ne 7, 3) := by decide +kernel
theorem dX13_with_282 : decode cX13_with 282 = .ok (.iconst 1, 1) := by decide +kernel

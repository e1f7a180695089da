theorem dX13_run_73 : decode cX13_run 73 = .ok (.istore 6, 2) := by decide +kernel
theorem dX13_run_75 : decode cX13_run 75 = .ok (.iload_n 1, 1) := by decide +kernel
theorem dX13_run_76 : decode cX13_run 76 = .ok (.ifCond .ne 33, 3) := by decide +kernel
theorem dX13_run_79 : decode cX13_run 79 = .ok (.aload_n 0, 1) := by decide +kernel
theorem dX13_run_80 : decode cX13_run 80 = .ok (.aload_n 0, 1) := by decide +kernel
theorem dX13_run_81 : decode cX13_run 81 = .ok (.getfield 301, 3) := by decide +kernel
theorem dX13_run_84 : decode cX13_run 84 = .ok (.ldc_w 307, 3) := by decide +kernel
theorem dX13_run_87 : decode cX13_run 87 = .ok (.imul, 1) := by decide +kernel
theorem dX13_run_88 : decode cX13_run 88 = .ok (.sipush 12345, 3) := by decide +kernel
theorem dX13_run_91 : decode cX13_run 91 = .ok (.iadd, 1) := by decide +kernel
theorem dX13_run_92 : decode cX13_run 92 = .ok (.putfield 301, 3) := by decide +kernel
theorem dX13_run_95 : decode cX13_run 95 = .ok (.aload_n 0, 1) := by decide +kernel
theorem dX13_run_96 : decode cX13_run 96 = .ok (.getfield 301, 3) := by decide +kernel
theorem dX13_run_99 : decode cX13_run 99 = .ok (.bipush 8, 2) := by decide +kernel
theorem dX13_run_101 : decode cX13_run 101 = .ok (.iushr, 1) := by decide +kernel
theorem dX13_run_102 : decode cX13_run 102 = .ok (.aload_n 0, 1) := by decide +kernel
theorem dX13_run_103 : decode cX13_run 103 = .ok (.invokevirtual 304, 3) := by decide +kernel
theorem dX13_run_106 : decode cX13_run 106 = .ok (.irem, 1) := by decide +kernel
theorem dX13_run_107 : decode cX13_run 107 = .ok (.istore 6, 2) := by decide +kernel
theorem dX13_run_109 : decode cX13_run 109 = .ok (.aload_n 0, 1) := by decide +kernel
theorem dX13_run_110 : decode cX13_run 110 = .ok (.getfield 98, 3) := by decide +kernel
theorem dX13_run_113 : decode cX13_run 113 = .ok (.iload 5, 2) := by decide +kernel
theorem dX13_run_115 : decode cX13_run 115 = .ok (.iaload, 1) := by decide +kernel
theorem dX13_run_116 : decode cX13_run 116 = .ok (.iconst 1, 1) := by decide +kernel
theorem dX13_run_117 : decode cX13_run 117 = .ok (.if_icmp .ne 8, 3) := by decide +kernel
theorem dX13_run_120 : decode cX13_run 120 = .ok (.iload 6, 2) := by decide +kernel
theorem dX13_run_122 : decode cX13_run 122 = .ok (.ifCond .le 29, 3) := by decide +kernel
theorem dX13_run_125 : decode cX13_run 125 = .ok (.aload_n 0, 1) := by decide +kernel
theorem dX13_run_126 : decode cX13_run 126 = .ok (.getfield 98, 3) := by decide +kernel
theorem dX13_run_129 : decode cX13_run 129 = .ok (.iload 5, 2) := by decide +kernel
theorem dX13_run_131 : decode cX13_run 131 = .ok (.iaload, 1) := by decide +kernel
theorem dX13_run_132 : decode cX13_run 132 = .ok (.iconst 1, 1) := by decide +kernel
theorem dX13_run_133 : decode cX13_run 133 = .ok (.if_icmp .ne 6, 3) := by decide +kernel
theorem dX13_run_136 : decode cX13_run 136 = .ok (.iinc 6 (-1), 3) := by decide +kernel
theorem dX13_run_139 : decode cX13_run 139 = .ok (.iload 5, 2) := by decide +kernel
theorem dX13_run_141 : decode cX13_run 141 = .ok (.iconst 1, 1) := by decide +kernel
theorem dX13_run_142 : decode cX13_run 142 = .ok (.iadd, 1) := by decide +kernel
theorem dX13_run_143 : decode cX13_run 143 = .ok (.bipush 8, 2) := by decide +kernel
theorem dX13_run_145 : decode cX13_run 145 = .ok (.irem, 1) := by decide +kernel
theorem dX13_run_146 : decode cX13_run 146 = .ok (.istore 5, 2) := by decide +kernel
theorem dX13_run_148 : decode cX13_run 148 = .ok (.goto (-39), 3) := by decide +kernel
theorem dX13_run_151 : decode cX13_run 151 = .ok (.aload_n 0, 1) := by decide +kernel
theorem dX13_run_152 : decode cX13_run 152 = .ok (.iload 5, 2) := by decide +kernel
theorem dX13_run_154 : decode cX13_run 154 = .ok (.invokevirtual 298, 3) := by decide +kernel
theorem dX13_run_157 : decode cX13_run 157 = .ok (.iinc 4 1, 3) := by decide +kernel
theorem dX13_run_160 : decode cX13_run 160 = .ok (.goto (-121), 3) := by decide +kernel
theorem dX13_run_163 : decode cX13_run 163 = .ok (.iload 4, 2) := by decide +kernel
theorem dX13_run_165 : decode cX13_run 165 = .ok (.ireturn, 1) := by decide +kernel
theorem dX13_tick_0 : decode cX13_tick 0 = .ok (.iload_n 1, 1) := by decide +kernel
theorem dX13_tick_1 : decode cX13_tick 1 = .ok (.ifCond .ge 9, 3) := by decide +kernel
theorem dX13_tick_4 : decode cX13_tick 4 = .ok (.aload_n 0, 1) := by decide +kernel
theorem dX13_tick_5 : decode cX13_tick 5 = .ok (.iconst 1, 1) := by decide +kernel
theorem dX13_tick_6 : decode cX13_tick 6 = .ok (.invokevirtual 171, 3) := by decide +kernel
theorem dX13_tick_9 : decode cX13_tick 9 = .ok (.ireturn, 1) := by decide +kernel
theorem dX13_tick_10 : decode cX13_tick 10 = .ok (.aload_n 0, 1) := by decide +kernel
theorem dX13_tick_11 : decode cX13_tick 11 = .ok (.iconst 0, 1) := by decide +kernel
theorem dX13_tick_12 : decode cX13_tick 12 = .ok (.putfield 165, 3) := by decide +kernel
theorem dX13_tick_15 : decode cX13_tick 15 = .ok (.aload_n 0, 1) := by decide +kernel
theorem dX13_tick_16 : decode cX13_tick 16 = .ok (.dup, 1) := by decide +kernel
theorem dX13_tick_17 : decode cX13_tick 17 = .ok (.getfield 255, 3) := by decide +kernel
theorem dX13_tick_20 : decode cX13_tick 20 = .ok (.iload_n 1, 1) := by decide +kernel
theorem dX13_tick_21 : decode cX13_tick 21 = .ok (.i2l, 1) := by decide +kernel
theorem dX13_tick_22 : decode cX13_tick 22 = .ok (.ladd, 1) := by decide +kernel
theorem dX13_tick_23 : decode cX13_tick 23 = .ok (.putfield 255, 3) := by decide +kernel
theorem dX13_tick_26 : decode cX13_tick 26 = .ok (.iconst 0, 1) := by decide +kernel
theorem dX13_tick_27 : decode cX13_tick 27 = .ok (.istore_n 2, 1) := by decide +kernel
theorem dX13_tick_28 : decode cX13_tick 28 = .ok (.iconst 0, 1) := by decide +kernel
theorem dX13_tick_29 : decode cX13_tick 29 = .ok (.istore_n 3, 1) := by decide +kernel
theorem dX13_tick_30 : decode cX13_tick 30 = .ok (.iload_n 3, 1) := by decide +kernel
theorem dX13_tick_31 : decode cX13_tick 31 = .ok (.bipush 8, 2) := by decide +kernel
theorem dX13_tick_33 : decode cX13_tick 33 = .ok (.if_icmp .ge 44, 3) := by decide +kernel
theorem dX13_tick_36 : decode cX13_tick 36 = .ok (.aload_n 0, 1) := by decide +kernel
theorem dX13_tick_37 : decode cX13_tick 37 = .ok (.getfield 98, 3) := by decide +kernel
theorem dX13_tick_40 : decode cX13_tick 40 = .ok (.iload_n 3, 1) := by decide +kernel
theorem dX13_tick_41 : decode cX13_tick 41 = .ok (.iaload, 1) := by decide +kernel
theorem dX13_tick_42 : decode cX13_tick 42 = .ok (.iconst 3, 1) := by decide +kernel
theorem dX13_tick_43 : decode cX13_tick 43 = .ok (.if_icmp .ne 28, 3) := by decide +kernel
theorem dX13_tick_46 : decode cX13_tick 46 = .ok (.aload_n 0, 1) := by decide +kernel
theorem dX13_tick_47 : decode cX13_tick 47 = .ok (.getfield 129, 3) := by decide +kernel
theorem dX13_tick_50 : decode cX13_tick 50 = .ok (.iload_n 3, 1) := by decide +kernel
theorem dX13_tick_51 : decode cX13_tick 51 = .ok (.laload, 1) := by decide +kernel
theorem dX13_tick_52 : decode cX13_tick 52 = .ok (.aload_n 0, 1) := by decide +kernel
theorem dX13_tick_53 : decode cX13_tick 53 = .ok (.getfield 255, 3) := by decide +kernel
theorem dX13_tick_56 : decode cX13_tick 56 = .ok (.lcmp, 1) := by decide +kernel
theorem dX13_tick_57 : decode cX13_tick 57 = .ok (.ifCond .le 6, 3) := by decide +kernel
theorem dX13_tick_60 : decode cX13_tick 60 = .ok (.goto 11, 3) := by decide +kernel
theorem dX13_tick_63 : decode cX13_tick 63 = .ok (.aload_n 0, 1) := by decide +kernel
theorem dX13_tick_64 : decode cX13_tick 64 = .ok (.iload_n 3, 1) := by decide +kernel
theorem dX13_tick_65 : decode cX13_tick 65 = .ok (.invokevirtual 233, 3) := by decide +kernel
theorem dX13_tick_68 : decode cX13_tick 68 = .ok (.iinc 2 1, 3) := by decide +kernel
theorem dX13_tick_71 : decode cX13_tick 71 = .ok (.iinc 3 1, 3) := by decide +kernel
theorem dX13_tick_74 : decode cX13_tick 74 = .ok (.goto (-44), 3) := by decide +kernel
theorem dX13_tick_77 : decode cX13_tick 77 = .ok (.iload_n 2, 1) := by decide +kernel
theorem dX13_tick_78 : decode cX13_tick 78 = .ok (.ireturn, 1) := by decide +kernel
theorem dX13_interrupt_0 : decode cX13_interrupt 0 = .ok (.iload_n 1, 1) := by decide +kernel
theorem dX13_interrupt_1 : decode cX13_interrupt 1 = .ok (.iconst 0, 1) := by decide +kernel
theorem dX13_interrupt_2 : decode cX13_interrupt 2 = .ok (.bipush 7, 2) := by decide +kernel
theorem dX13_interrupt_4 : decode cX13_interrupt 4 = .ok (.invokestatic 179, 3) := by decide +kernel
theorem dX13_interrupt_7 : decode cX13_interrupt 7 = .ok (.ifCond .ne 9, 3) := by decide +kernel
theorem dX13_interrupt_10 : decode cX13_interrupt 10 = .ok (.aload_n 0, 1) := by decide +kernel
theorem dX13_interrupt_11 : decode cX13_interrupt 11 = .ok (.iconst 1, 1) := by decide +kernel
theorem dX13_interrupt_12 : decode cX13_interrupt 12 = .ok (.invokevirtual 171, 3) := by decide +kernel
theorem dX13_interrupt_15 : decode cX13_interrupt 15 = .ok (.ireturn, 1) := by decide +kernel
theorem dX13_interrupt_16 : decode cX13_interrupt 16 = .ok (.aload_n 0, 1) := by decide +kernel
theorem dX13_interrupt_17 : decode cX13_interrupt 17 = .ok (.iconst 0, 1) := by decide +kernel
theorem dX13_interrupt_18 : decode cX13_interrupt 18 = .ok (.putfield 165, 3) := by decide +kernel
theorem dX13_interrupt_21 : decode cX13_interrupt 21 = .ok (.aload_n 0, 1) := by decide +kernel
theorem dX13_interrupt_22 : decode cX13_interrupt 22 = .ok (.getfield 98, 3) := by decide +kernel
theorem dX13_interrupt_25 : decode cX13_interrupt 25 = .ok (.iload_n 1, 1) := by decide +kernel
theorem dX13_interrupt_26 : decode cX13_interrupt 26 = .ok (.iaload, 1) := by decide +kernel
theorem dX13_interrupt_27 : decode cX13_interrupt 27 = .ok (.iconst 1, 1) := by decide +kernel
theorem dX13_interrupt_28 : decode cX13_interrupt 28 = .ok (.if_icmp .ne 12, 3) := by decide +kernel
theorem dX13_interrupt_31 : decode cX13_interrupt 31 = .ok (.aload_n 0, 1) := by decide +kernel
theorem dX13_interrupt_32 : decode cX13_interrupt 32 = .ok (.getfield 119, 3) := by decide +kernel
theorem dX13_interrupt_35 : decode cX13_interrupt 35 = .ok (.iload_n 1, 1) := by decide +kernel
theorem dX13_interrupt_36 : decode cX13_interrupt 36 = .ok (.iconst 1, 1) := by decide +kernel
theorem dX13_interrupt_37 : decode cX13_interrupt 37 = .ok (.bastore, 1) := by decide +kernel
theorem dX13_interrupt_38 : decode cX13_interrupt 38 = .ok (.iconst 1, 1) := by decide +kernel
theorem dX13_interrupt_39 : decode cX13_interrupt 39 = .ok (.ireturn, 1) := by decide +kernel
theorem dX13_interrupt_40 : decode cX13_interrupt 40 = .ok (.aload_n 0, 1) := by decide +kernel
theorem dX13_interrupt_41 : decode cX13_interrupt 41 = .ok (.getfield 98, 3) := by decide +kernel
theorem dX13_interrupt_44 : decode cX13_interrupt 44 = .ok (.iload_n 1, 1) := by decide +kernel
theorem dX13_interrupt_45 : decode cX13_interrupt 45 = .ok (.iaload, 1) := by decide +kernel
theorem dX13_interrupt_46 : decode cX13_interrupt 46 = .ok (.iconst 2, 1) := by decide +kernel
theorem dX13_interrupt_47 : decode cX13_interrupt 47 = .ok (.if_icmp .eq 15, 3) := by decide +kernel
theorem dX13_interrupt_50 : decode cX13_interrupt 50 = .ok (.aload_n 0, 1) := by decide +kernel
theorem dX13_interrupt_51 : decode cX13_interrupt 51 = .ok (.getfield 98, 3) := by decide +kernel
theorem dX13_interrupt_54 : decode cX13_interrupt 54 = .ok (.iload_n 1, 1) := by decide +kernel
theorem dX13_interrupt_55 : decode cX13_interrupt 55 = .ok (.iaload, 1) := by decide +kernel
theorem dX13_interrupt_56 : decode cX13_interrupt 56 = .ok (.iconst 3, 1) := by decide +kernel
theorem dX13_interrupt_57 : decode cX13_interrupt 57 = .ok (.if_icmp .eq 5, 3) := by decide +kernel
theorem dX13_interrupt_60 : decode cX13_interrupt 60 = .ok (.iconst 0, 1) := by decide +kernel
theorem dX13_interrupt_61 : decode cX13_interrupt 61 = .ok (.ireturn, 1) := by decide +kernel
theorem dX13_interrupt_62 : decode cX13_interrupt 62 = .ok (.aload_n 0, 1) := by decide +kernel
theorem dX13_interrupt_63 : decode cX13_interrupt 63 = .ok (.getfield 98, 3) := by decide +kernel
theorem dX13_interrupt_66 : decode cX13_interrupt 66 = .ok (.iload_n 1, 1) := by decide +kernel
theorem dX13_interrupt_67 : decode cX13_interrupt 67 = .ok (.iaload, 1) := by decide +kernel
theorem dX13_interrupt_68 : decode cX13_interrupt 68 = .ok (.iconst 2, 1) := by decide +kernel
theorem dX13_interrupt_69 : decode cX13_interrupt 69 = .ok (.if_icmp .ne 42, 3) := by decide +kernel
theorem dX13_interrupt_72 : decode cX13_interrupt 72 = .ok (.aload_n 0, 1) := by decide +kernel
theorem dX13_interrupt_73 : decode cX13_interrupt 73 = .ok (.getfield 126, 3) := by decide +kernel
theorem dX13_interrupt_76 : decode cX13_interrupt 76 = .ok (.iload_n 1, 1) := by decide +kernel
theorem dX13_interrupt_77 : decode cX13_interrupt 77 = .ok (.baload, 1) := by decide +kernel
theorem dX13_interrupt_78 : decode cX13_interrupt 78 = .ok (.ifCond .eq 33, 3) := by decide +kernel
theorem dX13_interrupt_81 : decode cX13_interrupt 81 = .ok (.aload_n 0, 1) := by decide +kernel
theorem dX13_interrupt_82 : decode cX13_interrupt 82 = .ok (.getfield 116, 3) := by decide +kernel
theorem dX13_interrupt_85 : decode cX13_interrupt 85 = .ok (.iload_n 1, 1) := by decide +kernel
theorem dX13_interrupt_86 : decode cX13_interrupt 86 = .ok (.bipush (-2), 2) := by decide +kernel
theorem dX13_interrupt_88 : decode cX13_interrupt 88 = .ok (.iastore, 1) := by decide +kernel
theorem dX13_interrupt_89 : decode cX13_interrupt 89 = .ok (.aload_n 0, 1) := by decide +kernel
theorem dX13_interrupt_90 : decode cX13_interrupt 90 = .ok (.getfield 123, 3) := by decide +kernel
theorem dX13_interrupt_93 : decode cX13_interrupt 93 = .ok (.iload_n 1, 1) := by decide +kernel
theorem dX13_interrupt_94 : decode cX13_interrupt 94 = .ok (.baload, 1) := by decide +kernel
theorem dX13_interrupt_95 : decode cX13_interrupt 95 = .ok (.ifCond .eq 14, 3) := by decide +kernel
theorem dX13_interrupt_98 : decode cX13_interrupt 98 = .ok (.aload_n 0, 1) := by decide +kernel
theorem dX13_interrupt_99 : decode cX13_interrupt 99 = .ok (.aload_n 0, 1) := by decide +kernel
theorem dX13_interrupt_100 : decode cX13_interrupt 100 = .ok (.getfield 107, 3) := by decide +kernel
theorem dX13_interrupt_103 : decode cX13_interrupt 103 = .ok (.iload_n 1, 1) := by decide +kernel
theorem dX13_interrupt_104 : decode cX13_interrupt 104 = .ok (.iaload, 1) := by decide +kernel
theorem dX13_interrupt_105 : decode cX13_interrupt 105 = .ok (.iload_n 1, 1) := by decide +kernel
theorem dX13_interrupt_106 : decode cX13_interrupt 106 = .ok (.invokevirtual 289, 3) := by decide +kernel
theorem dX13_interrupt_109 : decode cX13_interrupt 109 = .ok (.iconst 1, 1) := by decide +kernel
theorem dX13_interrupt_110 : decode cX13_interrupt 110 = .ok (.ireturn, 1) := by decide +kernel
theorem dX13_interrupt_111 : decode cX13_interrupt 111 = .ok (.aload_n 0, 1) := by decide +kernel
theorem dX13_interrupt_112 : decode cX13_interrupt 112 = .ok (.getfield 98, 3) := by decide +kernel
theorem dX13_interrupt_115 : decode cX13_interrupt 115 = .ok (.iload_n 1, 1) := by decide +kernel
theorem dX13_interrupt_116 : decode cX13_interrupt 116 = .ok (.iaload, 1) := by decide +kernel
theorem dX13_interrupt_117 : decode cX13_interrupt 117 = .ok (.iconst 2, 1) := by decide +kernel
theorem dX13_interrupt_118 : decode cX13_interrupt 118 = .ok (.if_icmp .ne 14, 3) := by decide +kernel
theorem dX13_interrupt_121 : decode cX13_interrupt 121 = .ok (.aload_n 0, 1) := by decide +kernel
theorem dX13_interrupt_122 : decode cX13_interrupt 122 = .ok (.aload_n 0, 1) := by decide +kernel
theorem dX13_interrupt_123 : decode cX13_interrupt 123 = .ok (.getfield 107, 3) := by decide +kernel
theorem dX13_interrupt_126 : decode cX13_interrupt 126 = .ok (.iload_n 1, 1) := by decide +kernel
theorem dX13_interrupt_127 : decode cX13_interrupt 127 = .ok (.iaload, 1) := by decide +kernel
theorem dX13_interrupt_128 : decode cX13_interrupt 128 = .ok (.iload_n 1, 1) := by decide +kernel
theorem dX13_interrupt_129 : decode cX13_interrupt 129 = .ok (.invokevirtual 229, 3) := by decide +kernel
theorem dX13_interrupt_132 : decode cX13_interrupt 132 = .ok (.aload_n 0, 1) := by decide +kernel
theorem dX13_interrupt_133 : decode cX13_interrupt 133 = .ok (.getfield 101, 3) := by decide +kernel
theorem dX13_interrupt_136 : decode cX13_interrupt 136 = .ok (.iload_n 1, 1) := by decide +kernel
theorem dX13_interrupt_137 : decode cX13_interrupt 137 = .ok (.bipush (-2), 2) := by decide +kernel
theorem dX13_interrupt_139 : decode cX13_interrupt 139 = .ok (.iastore, 1) := by decide +kernel
theorem dX13_interrupt_140 : decode cX13_interrupt 140 = .ok (.aload_n 0, 1) := by decide +kernel
theorem dX13_interrupt_141 : decode cX13_interrupt 141 = .ok (.iload_n 1, 1) := by decide +kernel
theorem dX13_interrupt_142 : decode cX13_interrupt 142 = .ok (.invokevirtual 233, 3) := by decide +kernel
theorem dX13_interrupt_145 : decode cX13_interrupt 145 = .ok (.iconst 1, 1) := by decide +kernel
theorem dX13_interrupt_146 : decode cX13_interrupt 146 = .ok (.ireturn, 1) := by decide +kernel
theorem dX13_look_0 : decode cX13_look 0 = .ok (.iload_n 1, 1) := by decide +kernel
theorem dX13_look_1 : decode cX13_look 1 = .ok (.iconst 0, 1) := by decide +kernel
theorem dX13_look_2 : decode cX13_look 2 = .ok (.bipush 7, 2) := by decide +kernel
theorem dX13_look_4 : decode cX13_look 4 = .ok (.invokestatic 179, 3) := by decide +kernel
theorem dX13_look_7 : decode cX13_look 7 = .ok (.ifCond .eq 12, 3) := by decide +kernel
theorem dX13_look_10 : decode cX13_look 10 = .ok (.iload_n 2, 1) := by decide +kernel
theorem dX13_look_11 : decode cX13_look 11 = .ok (.iconst 0, 1) := by decide +kernel
theorem dX13_look_12 : decode cX13_look 12 = .ok (.iconst 5, 1) := by decide +kernel
theorem dX13_look_13 : decode cX13_look 13 = .ok (.invokestatic 179, 3) := by decide +kernel
theorem dX13_look_16 : decode cX13_look 16 = .ok (.ifCond .ne 9, 3) := by decide +kernel
theorem dX13_look_19 : decode cX13_look 19 = .ok (.aload_n 0, 1) := by decide +kernel
theorem dX13_look_20 : decode cX13_look 20 = .ok (.iconst 1, 1) := by decide +kernel
theorem dX13_look_21 : decode cX13_look 21 = .ok (.invokevirtual 171, 3) := by decide +kernel
theorem dX13_look_24 : decode cX13_look 24 = .ok (.ireturn, 1) := by decide +kernel
theorem dX13_look_25 : decode cX13_look 25 = .ok (.aload_n 0, 1) := by decide +kernel
theorem dX13_look_26 : decode cX13_look 26 = .ok (.iconst 0, 1) := by decide +kernel
theorem dX13_look_27 : decode cX13_look 27 = .ok (.putfield 165, 3) := by decide +kernel
theorem dX13_look_30 : decode cX13_look 30 = .ok (.iload_n 2, 1) := by decide +kernel
theorem dX13_look_31 : decode cX13_look 31 = .ok (.ifCond .ne 10, 3) := by decide +kernel
theorem dX13_look_34 : decode cX13_look 34 = .ok (.aload_n 0, 1) := by decide +kernel
theorem dX13_look_35 : decode cX13_look 35 = .ok (.getfield 98, 3) := by decide +kernel
theorem dX13_look_38 : decode cX13_look 38 = .ok (.iload_n 1, 1) := by decide +kernel
theorem dX13_look_39 : decode cX13_look 39 = .ok (.iaload, 1) := by decide +kernel
theorem dX13_look_40 : decode cX13_look 40 = .ok (.ireturn, 1) := by decide +kernel
theorem dX13_look_41 : decode cX13_look 41 = .ok (.iload_n 2, 1) := by decide +kernel
theorem dX13_look_42 : decode cX13_look 42 = .ok (.iconst 1, 1) := by decide +kernel
theorem dX13_look_43 : decode cX13_look 43 = .ok (.if_icmp .ne 10, 3) := by decide +kernel
theorem dX13_look_46 : decode cX13_look 46 = .ok (.aload_n 0, 1) := by decide +kernel
theorem dX13_look_47 : decode cX13_look 47 = .ok (.getfield 101, 3) := by decide +kernel
theorem dX13_look_50 : decode cX13_look 50 = .ok (.iload_n 1, 1) := by decide +kernel
theorem dX13_look_51 : decode cX13_look 51 = .ok (.iaload, 1) := by decide +kernel
theorem dX13_look_52 : decode cX13_look 52 = .ok (.ireturn, 1) := by decide +kernel
theorem dX13_look_53 : decode cX13_look 53 = .ok (.iload_n 2, 1) := by decide +kernel
theorem dX13_look_54 : decode cX13_look 54 = .ok (.iconst 2, 1) := by decide +kernel
theorem dX13_look_55 : decode cX13_look 55 = .ok (.if_icmp .ne 33, 3) := by decide +kernel
theorem dX13_look_58 : decode cX13_look 58 = .ok (.aload_n 0, 1) := by decide +kernel
theorem dX13_look_59 : decode cX13_look 59 = .ok (.getfield 98, 3) := by decide +kernel
theorem dX13_look_62 : decode cX13_look 62 = .ok (.iload_n 1, 1) := by decide +kernel
theorem dX13_look_63 : decode cX13_look 63 = .ok (.iaload, 1) := by decide +kernel
theorem dX13_look_64 : decode cX13_look 64 = .ok (.ifCond .eq 13, 3) := by decide +kernel
theorem dX13_look_67 : decode cX13_look 67 = .ok (.aload_n 0, 1) := by decide +kernel
theorem dX13_look_68 : decode cX13_look 68 = .ok (.getfield 98, 3) := by decide +kernel
theorem dX13_look_71 : decode cX13_look 71 = .ok (.iload_n 1, 1) := by decide +kernel
theorem dX13_look_72 : decode cX13_look 72 = .ok (.iaload, 1) := by decide +kernel
theorem dX13_look_73 : decode cX13_look 73 = .ok (.iconst 4, 1) := by decide +kernel
theorem dX13_look_74 : decode cX13_look 74 = .ok (.if_icmp .ne 7, 3) := by decide +kernel
theorem dX13_look_77 : decode cX13_look 77 = .ok (.iconst (-1), 1) := by decide +kernel
theorem dX13_look_78 : decode cX13_look 78 = .ok (.goto 9, 3) := by decide +kernel
theorem dX13_look_81 : decode cX13_look 81 = .ok (.aload_n 0, 1) := by decide +kernel
theorem dX13_look_82 : decode cX13_look 82 = .ok (.getfield 104, 3) := by decide +kernel
theorem dX13_look_85 : decode cX13_look 85 = .ok (.iload_n 1, 1) := by decide +kernel
theorem dX13_look_86 : decode cX13_look 86 = .ok (.iaload, 1) := by decide +kernel
theorem dX13_look_87 : decode cX13_look 87 = .ok (.ireturn, 1) := by decide +kernel
theorem dX13_look_88 : decode cX13_look 88 = .ok (.iload_n 2, 1) := by decide +kernel
theorem dX13_look_89 : decode cX13_look 89 = .ok (.iconst 3, 1) := by decide +kernel
theorem dX13_look_90 : decode cX13_look 90 = .ok (.if_icmp .ne 24, 3) := by decide +kernel
theorem dX13_look_93 : decode cX13_look 93 = .ok (.aload_n 0, 1) := by decide +kernel
theorem dX13_look_94 : decode cX13_look 94 = .ok (.getfield 98, 3) := by decide +kernel
theorem dX13_look_97 : decode cX13_look 97 = .ok (.iload_n 1, 1) := by decide +kernel
theorem dX13_look_98 : decode cX13_look 98 = .ok (.iaload, 1) := by decide +kernel
theorem dX13_look_99 : decode cX13_look 99 = .ok (.iconst 2, 1) := by decide +kernel
theorem dX13_look_100 : decode cX13_look 100 = .ok (.if_icmp .ne 12, 3) := by decide +kernel
theorem dX13_look_103 : decode cX13_look 103 = .ok (.aload_n 0, 1) := by decide +kernel
theorem dX13_look_104 : decode cX13_look 104 = .ok (.getfield 107, 3) := by decide +kernel
theorem dX13_look_107 : decode cX13_look 107 = .ok (.iload_n 1, 1) := by decide +kernel
theorem dX13_look_108 : decode cX13_look 108 = .ok (.iaload, 1) := by decide +kernel
theorem dX13_look_109 : decode cX13_look 109 = .ok (.goto 4, 3) := by decide +kernel
theorem dX13_look_112 : decode cX13_look 112 = .ok (.iconst (-1), 1) := by decide +kernel
theorem dX13_look_113 : decode cX13_look 113 = .ok (.ireturn, 1) := by decide +kernel
theorem dX13_look_114 : decode cX13_look 114 = .ok (.iload_n 2, 1) := by decide +kernel
theorem dX13_look_115 : decode cX13_look 115 = .ok (.iconst 4, 1) := by decide +kernel
theorem dX13_look_116 : decode cX13_look 116 = .ok (.if_icmp .ne 18, 3) := by decide +kernel
theorem dX13_look_119 : decode cX13_look 119 = .ok (.aload_n 0, 1) := by decide +kernel
theorem dX13_look_120 : decode cX13_look 120 = .ok (.getfield 119, 3) := by decide +kernel
theorem dX13_look_123 : decode cX13_look 123 = .ok (.iload_n 1, 1) := by decide +kernel
theorem dX13_look_124 : decode cX13_look 124 = .ok (.baload, 1) := by decide +kernel
theorem dX13_look_125 : decode cX13_look 125 = .ok (.ifCond .eq 7, 3) := by decide +kernel
theorem dX13_look_128 : decode cX13_look 128 = .ok (.iconst 1, 1) := by decide +kernel
theorem dX13_look_129 : decode cX13_look 129 = .ok (.goto 4, 3) := by decide +kernel
theorem dX13_look_132 : decode cX13_look 132 = .ok (.iconst 0, 1) := by decide +kernel
theorem dX13_look_133 : decode cX13_look 133 = .ok (.ireturn, 1) := by decide +kernel
theorem dX13_look_134 : decode cX13_look 134 = .ok (.aload_n 0, 1) := by decide +kernel
theorem dX13_look_135 : decode cX13_look 135 = .ok (.getfield 98, 3) := by decide +kernel
theorem dX13_look_138 : decode cX13_look 138 = .ok (.iload_n 1, 1) := by decide +kernel
theorem dX13_look_139 : decode cX13_look 139 = .ok (.iaload, 1) := by decide +kernel
theorem dX13_look_140 : decode cX13_look 140 = .ok (.iconst 5, 1) := by decide +kernel
theorem dX13_look_141 : decode cX13_look 141 = .ok (.if_icmp .ne 12, 3) := by decide +kernel
theorem dX13_look_144 : decode cX13_look 144 = .ok (.aload_n 0, 1) := by decide +kernel
theorem dX13_look_145 : decode cX13_look 145 = .ok (.getfield 110, 3) := by decide +kernel
theorem dX13_look_148 : decode cX13_look 148 = .ok (.iload_n 1, 1) := by decide +kernel
theorem dX13_look_149 : decode cX13_look 149 = .ok (.iaload, 1) := by decide +kernel
theorem dX13_look_150 : decode cX13_look 150 = .ok (.goto 4, 3) := by decide +kernel
theorem dX13_look_153 : decode cX13_look 153 = .ok (.iconst 0, 1) := by decide +kernel
theorem dX13_look_154 : decode cX13_look 154 = .ok (.ireturn, 1) := by decide +kernel
theorem dX13_nextOf_0 : decode cX13_nextOf 0 = .ok (.aload_n 0, 1) := by decide +kernel
theorem dX13_nextOf_1 : decode cX13_nextOf 1 = .ok (.getfield 98, 3) := by decide +kernel
theorem dX13_nextOf_4 : decode cX13_nextOf 4 = .ok (.iload_n 1, 1) := by decide +kernel
theorem dX13_nextOf_5 : decode cX13_nextOf 5 = .ok (.iaload, 1) := by decide +kernel
theorem dX13_nextOf_6 : decode cX13_nextOf 6 = .ok (.iconst 2, 1) := by decide +kernel
theorem dX13_nextOf_7 : decode cX13_nextOf 7 = .ok (.if_icmp .ne 27, 3) := by decide +kernel
theorem dX13_nextOf_10 : decode cX13_nextOf 10 = .ok (.aload_n 0, 1) := by decide +kernel
theorem dX13_nextOf_11 : decode cX13_nextOf 11 = .ok (.getfield 123, 3) := by decide +kernel
theorem dX13_nextOf_14 : decode cX13_nextOf 14 = .ok (.iload_n 1, 1) := by decide +kernel
theorem dX13_nextOf_15 : decode cX13_nextOf 15 = .ok (.baload, 1) := by decide +kernel
theorem dX13_nextOf_16 : decode cX13_nextOf 16 = .ok (.ifCond .ne 18, 3) := by decide +kernel
theorem dX13_nextOf_19 : decode cX13_nextOf 19 = .ok (.aload_n 0, 1) := by decide +kernel
theorem dX13_nextOf_20 : decode cX13_nextOf 20 = .ok (.getfield 135, 3) := by decide +kernel
theorem dX13_nextOf_23 : decode cX13_nextOf 23 = .ok (.aload_n 0, 1) := by decide +kernel
theorem dX13_nextOf_24 : decode cX13_nextOf 24 = .ok (.getfield 107, 3) := by decide +kernel
theorem dX13_nextOf_27 : decode cX13_nextOf 27 = .ok (.iload_n 1, 1) := by decide +kernel
theorem dX13_nextOf_28 : decode cX13_nextOf 28 = .ok (.iaload, 1) := by decide +kernel
theorem dX13_nextOf_29 : decode cX13_nextOf 29 = .ok (.iaload, 1) := by decide +kernel
theorem dX13_nextOf_30 : decode cX13_nextOf 30 = .ok (.iconst 1, 1) := by decide +kernel
theorem dX13_nextOf_31 : decode cX13_nextOf 31 = .ok (.if_icmp .eq 5, 3) := by decide +kernel
theorem dX13_nextOf_34 : decode cX13_nextOf 34 = .ok (.iconst (-1), 1) := by decide +kernel
theorem dX13_nextOf_35 : decode cX13_nextOf 35 = .ok (.ireturn, 1) := by decide +kernel
theorem dX13_nextOf_36 : decode cX13_nextOf 36 = .ok (.aload_n 0, 1) := by decide +kernel
theorem dX13_nextOf_37 : decode cX13_nextOf 37 = .ok (.getfield 144, 3) := by decide +kernel
theorem dX13_nextOf_40 : decode cX13_nextOf 40 = .ok (.aload_n 0, 1) := by decide +kernel
theorem dX13_nextOf_41 : decode cX13_nextOf 41 = .ok (.getfield 107, 3) := by decide +kernel
theorem dX13_nextOf_44 : decode cX13_nextOf 44 = .ok (.iload_n 1, 1) := by decide +kernel
theorem dX13_nextOf_45 : decode cX13_nextOf 45 = .ok (.iaload, 1) := by decide +kernel
theorem dX13_nextOf_46 : decode cX13_nextOf 46 = .ok (.iaload, 1) := by decide +kernel
theorem dX13_nextOf_47 : decode cX13_nextOf 47 = .ok (.ireturn, 1) := by decide +kernel
theorem dX13_dead_0 : decode cX13_dead 0 = .ok (.aload_n 0, 1) := by decide +kernel
theorem dX13_dead_1 : decode cX13_dead 1 = .ok (.iconst 0, 1) := by decide +kernel
theorem dX13_dead_2 : decode cX13_dead 2 = .ok (.putfield 165, 3) := by decide +kernel
theorem dX13_dead_5 : decode cX13_dead 5 = .ok (.iconst 0, 1) := by decide +kernel
theorem dX13_dead_6 : decode cX13_dead 6 = .ok (.istore_n 1, 1) := by decide +kernel
theorem dX13_dead_7 : decode cX13_dead 7 = .ok (.iload_n 1, 1) := by decide +kernel
theorem dX13_dead_8 : decode cX13_dead 8 = .ok (.bipush 8, 2) := by decide +kernel
theorem dX13_dead_10 : decode cX13_dead 10 = .ok (.if_icmp .ge 42, 3) := by decide +kernel
theorem dX13_dead_13 : decode cX13_dead 13 = .ok (.iload_n 1, 1) := by decide +kernel
theorem dX13_dead_14 : decode cX13_dead 14 = .ok (.istore_n 2, 1) := by decide +kernel
theorem dX13_dead_15 : decode cX13_dead 15 = .ok (.iconst 0, 1) := by decide +kernel
theorem dX13_dead_16 : decode cX13_dead 16 = .ok (.istore_n 3, 1) := by decide +kernel
theorem dX13_dead_17 : decode cX13_dead 17 = .ok (.iload_n 3, 1) := by decide +kernel
theorem dX13_dead_18 : decode cX13_dead 18 = .ok (.bipush 8, 2) := by decide +kernel
theorem dX13_dead_20 : decode cX13_dead 20 = .ok (.if_icmp .ge 26, 3) := by decide +kernel
theorem dX13_dead_23 : decode cX13_dead 23 = .ok (.iload_n 2, 1) := by decide +kernel
theorem dX13_dead_24 : decode cX13_dead 24 = .ok (.ifCond .lt 22, 3) := by decide +kernel
theorem dX13_dead_27 : decode cX13_dead 27 = .ok (.aload_n 0, 1) := by decide +kernel
theorem dX13_dead_28 : decode cX13_dead 28 = .ok (.iload_n 2, 1) := by decide +kernel
theorem dX13_dead_29 : decode cX13_dead 29 = .ok (.invokevirtual 308, 3) := by decide +kernel
theorem dX13_dead_32 : decode cX13_dead 32 = .ok (.istore_n 2, 1) := by decide +kernel
theorem dX13_dead_33 : decode cX13_dead 33 = .ok (.iload_n 2, 1) := by decide +kernel
theorem dX13_dead_34 : decode cX13_dead 34 = .ok (.iload_n 1, 1) := by decide +kernel
theorem dX13_dead_35 : decode cX13_dead 35 = .ok (.if_icmp .ne 5, 3) := by decide +kernel
theorem dX13_dead_38 : decode cX13_dead 38 = .ok (.iload_n 1, 1) := by decide +kernel
theorem dX13_dead_39 : decode cX13_dead 39 = .ok (.ireturn, 1) := by decide +kernel
theorem dX13_dead_40 : decode cX13_dead 40 = .ok (.iinc 3 1, 3) := by decide +kernel
theorem dX13_dead_43 : decode cX13_dead 43 = .ok (.goto (-26), 3) := by decide +kernel
theorem dX13_dead_46 : decode cX13_dead 46 = .ok (.iinc 1 1, 3) := by decide +kernel
theorem dX13_dead_49 : decode cX13_dead 49 = .ok (.goto (-42), 3) := by decide +kernel
theorem dX13_dead_52 : decode cX13_dead 52 = .ok (.iconst (-1), 1) := by decide +kernel
theorem dX13_dead_53 : decode cX13_dead 53 = .ok (.ireturn, 1) := by decide +kernel
theorem dX13_sync_0 : decode cX13_sync 0 = .ok (.aload_n 0, 1) := by decide +kernel
theorem dX13_sync_1 : decode cX13_sync 1 = .ok (.iload_n 1, 1) := by decide +kernel
theorem dX13_sync_2 : decode cX13_sync 2 = .ok (.invokevirtual 219, 3) := by decide +kernel
theorem dX13_sync_5 : decode cX13_sync 5 = .ok (.ifCond .ne 10, 3) := by decide +kernel
theorem dX13_sync_8 : decode cX13_sync 8 = .ok (.aload_n 0, 1) := by decide +kernel
theorem dX13_sync_9 : decode cX13_sync 9 = .ok (.iconst 1, 1) := by decide +kernel
theorem dX13_sync_10 : decode cX13_sync 10 = .ok (.invokevirtual 171, 3) := by decide +kernel
theorem dX13_sync_13 : decode cX13_sync 13 = .ok (.i2l, 1) := by decide +kernel
theorem dX13_sync_14 : decode cX13_sync 14 = .ok (.lreturn, 1) := by decide +kernel
theorem dX13_sync_15 : decode cX13_sync 15 = .ok (.iload_n 2, 1) := by decide +kernel
theorem dX13_sync_16 : decode cX13_sync 16 = .ok (.iconst 0, 1) := by decide +kernel
theorem dX13_sync_17 : decode cX13_sync 17 = .ok (.iconst 4, 1) := by decide +kernel
theorem dX13_sync_18 : decode cX13_sync 18 = .ok (.invokestatic 179, 3) := by decide +kernel
theorem dX13_sync_21 : decode cX13_sync 21 = .ok (.ifCond .ne 10, 3) := by decide +kernel
theorem dX13_sync_24 : decode cX13_sync 24 = .ok (.aload_n 0, 1) := by decide +kernel
theorem dX13_sync_25 : decode cX13_sync 25 = .ok (.iconst 2, 1) := by decide +kernel
theorem dX13_sync_26 : decode cX13_sync 26 = .ok (.invokevirtual 171, 3) := by decide +kernel
theorem dX13_sync_29 : decode cX13_sync 29 = .ok (.i2l, 1) := by decide +kernel
theorem dX13_sync_30 : decode cX13_sync 30 = .ok (.lreturn, 1) := by decide +kernel
theorem dX13_sync_31 : decode cX13_sync 31 = .ok (.aload_n 0, 1) := by decide +kernel
theorem dX13_sync_32 : decode cX13_sync 32 = .ok (.getfield 135, 3) := by decide +kernel
theorem dX13_sync_35 : decode cX13_sync 35 = .ok (.iload_n 1, 1) := by decide +kernel
theorem dX13_sync_36 : decode cX13_sync 36 = .ok (.iaload, 1) := by decide +kernel
theorem dX13_sync_37 : decode cX13_sync 37 = .ok (.istore_n 3, 1) := by decide +kernel
theorem dX13_sync_38 : decode cX13_sync 38 = .ok (.iload_n 2, 1) := by decide +kernel
theorem dX13_sync_39 : decode cX13_sync 39 = .ok (.iconst 2, 1) := by decide +kernel
theorem dX13_sync_40 : decode cX13_sync 40 = .ok (.if_icmp .ne 14, 3) := by decide +kernel
theorem dX13_sync_43 : decode cX13_sync 43 = .ok (.iload_n 3, 1) := by decide +kernel
theorem dX13_sync_44 : decode cX13_sync 44 = .ok (.iconst 1, 1) := by decide +kernel
theorem dX13_sync_45 : decode cX13_sync 45 = .ok (.if_icmp .eq 9, 3) := by decide +kernel
theorem dX13_sync_48 : decode cX13_sync 48 = .ok (.iload_n 3, 1) := by decide +kernel
theorem dX13_sync_49 : decode cX13_sync 49 = .ok (.bipush 8, 2) := by decide +kernel
theorem dX13_sync_51 : decode cX13_sync 51 = .ok (.if_icmp .ne 23, 3) := by decide +kernel
theorem dX13_sync_54 : decode cX13_sync 54 = .ok (.iload_n 2, 1) := by decide +kernel
theorem dX13_sync_55 : decode cX13_sync 55 = .ok (.iconst 3, 1) := by decide +kernel
theorem dX13_sync_56 : decode cX13_sync 56 = .ok (.if_icmp .ne 8, 3) := by decide +kernel
theorem dX13_sync_59 : decode cX13_sync 59 = .ok (.iload_n 3, 1) := by decide +kernel
theorem dX13_sync_60 : decode cX13_sync 60 = .ok (.iconst 1, 1) := by decide +kernel
theorem dX13_sync_61 : decode cX13_sync 61 = .ok (.if_icmp .ne 13, 3) := by decide +kernel
theorem dX13_sync_64 : decode cX13_sync 64 = .ok (.iload_n 2, 1) := by decide +kernel
theorem dX13_sync_65 : decode cX13_sync 65 = .ok (.iconst 4, 1) := by decide +kernel
theorem dX13_sync_66 : decode cX13_sync 66 = .ok (.if_icmp .ne 15, 3) := by decide +kernel
theorem dX13_sync_69 : decode cX13_sync 69 = .ok (.iload_n 3, 1) := by decide +kernel
theorem dX13_sync_70 : decode cX13_sync 70 = .ok (.iconst 5, 1) := by decide +kernel
theorem dX13_sync_71 : decode cX13_sync 71 = .ok (.if_icmp .eq 10, 3) := by decide +kernel
theorem dX13_sync_74 : decode cX13_sync 74 = .ok (.aload_n 0, 1) := by decide +kernel
theorem dX13_sync_75 : decode cX13_sync 75 = .ok (.iconst 3, 1) := by decide +kernel
theorem dX13_sync_76 : decode cX13_sync 76 = .ok (.invokevirtual 171, 3) := by decide +kernel
theorem dX13_sync_79 : decode cX13_sync 79 = .ok (.i2l, 1) := by decide +kernel
theorem dX13_sync_80 : decode cX13_sync 80 = .ok (.lreturn, 1) := by decide +kernel
theorem dX13_sync_81 : decode cX13_sync 81 = .ok (.aload_n 0, 1) := by decide +kernel
theorem dX13_sync_82 : decode cX13_sync 82 = .ok (.iconst 0, 1) := by decide +kernel
theorem dX13_sync_83 : decode cX13_sync 83 = .ok (.putfield 165, 3) := by decide +kernel
theorem dX13_sync_86 : decode cX13_sync 86 = .ok (.iload_n 2, 1) := by decide +kernel
theorem dX13_sync_87 : decode cX13_sync 87 = .ok (.iconst 1, 1) := by decide +kernel
theorem dX13_sync_88 : decode cX13_sync 88 = .ok (.if_icmp .ne 11, 3) := by decide +kernel
theorem dX13_sync_91 : decode cX13_sync 91 = .ok (.aload_n 0, 1) := by decide +kernel
theorem dX13_sync_92 : decode cX13_sync 92 = .ok (.getfield 150, 3) := by decide +kernel
theorem dX13_sync_95 : decode cX13_sync 95 = .ok (.iload_n 1, 1) := by decide +kernel
theorem dX13_sync_96 : decode cX13_sync 96 = .ok (.iaload, 1) := by decide +kernel
theorem dX13_sync_97 : decode cX13_sync 97 = .ok (.i2l, 1) := by decide +kernel
theorem dX13_sync_98 : decode cX13_sync 98 = .ok (.lreturn, 1) := by decide +kernel
theorem dX13_sync_99 : decode cX13_sync 99 = .ok (.iload_n 2, 1) := by decide +kernel
theorem dX13_sync_100 : decode cX13_sync 100 = .ok (.iconst 2, 1) := by decide +kernel
theorem dX13_sync_101 : decode cX13_sync 101 = .ok (.if_icmp .ne 11, 3) := by decide +kernel
theorem dX13_sync_104 : decode cX13_sync 104 = .ok (.aload_n 0, 1) := by decide +kernel
theorem dX13_sync_105 : decode cX13_sync 105 = .ok (.getfield 144, 3) := by decide +kernel
theorem dX13_sync_108 : decode cX13_sync 108 = .ok (.iload_n 1, 1) := by decide +kernel
theorem dX13_sync_109 : decode cX13_sync 109 = .ok (.iaload, 1) := by decide +kernel
theorem dX13_sync_110 : decode cX13_sync 110 = .ok (.i2l, 1) := by decide +kernel
theorem dX13_sync_111 : decode cX13_sync 111 = .ok (.lreturn, 1) := by decide +kernel
theorem dX13_sync_112 : decode cX13_sync 112 = .ok (.iload_n 2, 1) := by decide +kernel
theorem dX13_sync_113 : decode cX13_sync 113 = .ok (.iconst 3, 1) := by decide +kernel
theorem dX13_sync_114 : decode cX13_sync 114 = .ok (.if_icmp .ne 11, 3) := by decide +kernel
theorem dX13_sync_117 : decode cX13_sync 117 = .ok (.aload_n 0, 1) := by decide +kernel
theorem dX13_sync_118 : decode cX13_sync 118 = .ok (.getfield 156, 3) := by decide +kernel
theorem dX13_sync_121 : decode cX13_sync 121 = .ok (.iload_n 1, 1) := by decide +kernel
theorem dX13_sync_122 : decode cX13_sync 122 = .ok (.iaload, 1) := by decide +kernel
theorem dX13_sync_123 : decode cX13_sync 123 = .ok (.i2l, 1) := by decide +kernel
theorem dX13_sync_124 : decode cX13_sync 124 = .ok (.lreturn, 1) := by decide +kernel
theorem dX13_sync_125 : decode cX13_sync 125 = .ok (.iload_n 2, 1) := by decide +kernel
theorem dX13_sync_126 : decode cX13_sync 126 = .ok (.iconst 4, 1) := by decide +kernel
theorem dX13_sync_127 : decode cX13_sync 127 = .ok (.if_icmp .ne 11, 3) := by decide +kernel
theorem dX13_sync_130 : decode cX13_sync 130 = .ok (.aload_n 0, 1) := by decide +kernel
theorem dX13_sync_131 : decode cX13_sync 131 = .ok (.getfield 138, 3) := by decide +kernel
theorem dX13_sync_134 : decode cX13_sync 134 = .ok (.iload_n 1, 1) := by decide +kernel
theorem dX13_sync_135 : decode cX13_sync 135 = .ok (.iaload, 1) := by decide +kernel
theorem dX13_sync_136 : decode cX13_sync 136 = .ok (.i2l, 1) := by decide +kernel
theorem dX13_sync_137 : decode cX13_sync 137 = .ok (.lreturn, 1) := by decide +kernel
theorem dX13_sync_138 : decode cX13_sync 138 = .ok (.iload_n 3, 1) := by decide +kernel
theorem dX13_sync_139 : decode cX13_sync 139 = .ok (.iconst 4, 1) := by decide +kernel
theorem dX13_sync_140 : decode cX13_sync 140 = .ok (.if_icmp .ne 11, 3) := by decide +kernel
theorem dX13_sync_143 : decode cX13_sync 143 = .ok (.aload_n 0, 1) := by decide +kernel
theorem dX13_sync_144 : decode cX13_sync 144 = .ok (.getfield 150, 3) := by decide +kernel
theorem dX13_sync_147 : decode cX13_sync 147 = .ok (.iload_n 1, 1) := by decide +kernel
theorem dX13_sync_148 : decode cX13_sync 148 = .ok (.iaload, 1) := by decide +kernel
theorem dX13_sync_149 : decode cX13_sync 149 = .ok (.i2l, 1) := by decide +kernel
theorem dX13_sync_150 : decode cX13_sync 150 = .ok (.lreturn, 1) := by decide +kernel
theorem dX13_sync_151 : decode cX13_sync 151 = .ok (.iload_n 3, 1) := by decide +kernel
theorem dX13_sync_152 : decode cX13_sync 152 = .ok (.iconst 5, 1) := by decide +kernel
theorem dX13_sync_153 : decode cX13_sync 153 = .ok (.if_icmp .ne 11, 3) := by decide +kernel
theorem dX13_sync_156 : decode cX13_sync 156 = .ok (.aload_n 0, 1) := by decide +kernel
theorem dX13_sync_157 : decode cX13_sync 157 = .ok (.getfield 162, 3) := by decide +kernel
theorem dX13_sync_160 : decode cX13_sync 160 = .ok (.iload_n 1, 1) := by decide +kernel
theorem dX13_sync_161 : decode cX13_sync 161 = .ok (.iaload, 1) := by decide +kernel
theorem dX13_sync_162 : decode cX13_sync 162 = .ok (.i2l, 1) := by decide +kernel
theorem dX13_sync_163 : decode cX13_sync 163 = .ok (.lreturn, 1) := by decide +kernel
theorem dX13_sync_164 : decode cX13_sync 164 = .ok (.iload_n 3, 1) := by decide +kernel
theorem dX13_sync_165 : decode cX13_sync 165 = .ok (.bipush 7, 2) := by decide +kernel
theorem dX13_sync_167 : decode cX13_sync 167 = .ok (.if_icmp .ne 18, 3) := by decide +kernel
theorem dX13_sync_170 : decode cX13_sync 170 = .ok (.aload_n 0, 1) := by decide +kernel
theorem dX13_sync_171 : decode cX13_sync 171 = .ok (.getfield 141, 3) := by decide +kernel
theorem dX13_sync_174 : decode cX13_sync 174 = .ok (.iload_n 1, 1) := by decide +kernel
theorem dX13_sync_175 : decode cX13_sync 175 = .ok (.iaload, 1) := by decide +kernel
theorem dX13_sync_176 : decode cX13_sync 176 = .ok (.ifCond .ne 9, 3) := by decide +kernel
theorem dX13_sync_179 : decode cX13_sync 179 = .ok (.ldc2_w 311, 3) := by decide +kernel
theorem dX13_sync_182 : decode cX13_sync 182 = .ok (.goto 10, 3) := by decide +kernel
theorem dX13_sync_185 : decode cX13_sync 185 = .ok (.aload_n 0, 1) := by decide +kernel
theorem dX13_sync_186 : decode cX13_sync 186 = .ok (.getfield 138, 3) := by decide +kernel
theorem dX13_sync_189 : decode cX13_sync 189 = .ok (.iload_n 1, 1) := by decide +kernel
theorem dX13_sync_190 : decode cX13_sync 190 = .ok (.iaload, 1) := by decide +kernel
theorem dX13_sync_191 : decode cX13_sync 191 = .ok (.i2l, 1) := by decide +kernel
theorem dX13_sync_192 : decode cX13_sync 192 = .ok (.lreturn, 1) := by decide +kernel
theorem dX13_count_0 : decode cX13_count 0 = .ok (.iload_n 1, 1) := by decide +kernel
theorem dX13_count_1 : decode cX13_count 1 = .ok (.iconst 0, 1) := by decide +kernel
theorem dX13_count_2 : decode cX13_count 2 = .ok (.iconst 4, 1) := by decide +kernel
theorem dX13_count_3 : decode cX13_count 3 = .ok (.invokestatic 179, 3) := by decide +kernel
theorem dX13_count_6 : decode cX13_count 6 = .ok (.ifCond .ne 21, 3) := by decide +kernel
theorem dX13_count_9 : decode cX13_count 9 = .ok (.iload_n 1, 1) := by decide +kernel
theorem dX13_count_10 : decode cX13_count 10 = .ok (.bipush 10, 2) := by decide +kernel
theorem dX13_count_12 : decode cX13_count 12 = .ok (.bipush 33, 2) := by decide +kernel
theorem dX13_count_14 : decode cX13_count 14 = .ok (.invokestatic 179, 3) := by decide +kernel
theorem dX13_count_17 : decode cX13_count 17 = .ok (.ifCond .ne 10, 3) := by decide +kernel
theorem dX13_count_20 : decode cX13_count 20 = .ok (.aload_n 0, 1) := by decide +kernel
theorem dX13_count_21 : decode cX13_count 21 = .ok (.iconst 1, 1) := by decide +kernel
theorem dX13_count_22 : decode cX13_count 22 = .ok (.invokevirtual 171, 3) := by decide +kernel
theorem dX13_count_25 : decode cX13_count 25 = .ok (.i2l, 1) := by decide +kernel
theorem dX13_count_26 : decode cX13_count 26 = .ok (.lreturn, 1) := by decide +kernel
theorem dX13_count_27 : decode cX13_count 27 = .ok (.aload_n 0, 1) := by decide +kernel
theorem dX13_count_28 : decode cX13_count 28 = .ok (.iconst 0, 1) := by decide +kernel
theorem dX13_count_29 : decode cX13_count 29 = .ok (.putfield 165, 3) := by decide +kernel
theorem dX13_count_32 : decode cX13_count 32 = .ok (.iload_n 1, 1) := by decide +kernel
theorem dX13_count_33 : decode cX13_count 33 = .ok (.ifCond .ne 9, 3) := by decide +kernel
theorem dX13_count_36 : decode cX13_count 36 = .ok (.aload_n 0, 1) := by decide +kernel
theorem dX13_count_37 : decode cX13_count 37 = .ok (.getfield 168, 3) := by decide +kernel
theorem dX13_count_40 : decode cX13_count 40 = .ok (.i2l, 1) := by decide +kernel
theorem dX13_count_41 : decode cX13_count 41 = .ok (.lreturn, 1) := by decide +kernel
theorem dX13_count_42 : decode cX13_count 42 = .ok (.iload_n 1, 1) := by decide +kernel
theorem dX13_count_43 : decode cX13_count 43 = .ok (.iconst 1, 1) := by decide +kernel
theorem dX13_count_44 : decode cX13_count 44 = .ok (.if_icmp .ne 9, 3) := by decide +kernel
theorem dX13_count_47 : decode cX13_count 47 = .ok (.aload_n 0, 1) := by decide +kernel
theorem dX13_count_48 : decode cX13_count 48 = .ok (.invokevirtual 223, 3) := by decide +kernel
theorem dX13_count_51 : decode cX13_count 51 = .ok (.i2l, 1) := by decide +kernel
theorem dX13_count_52 : decode cX13_count 52 = .ok (.lreturn, 1) := by decide +kernel
theorem dX13_count_53 : decode cX13_count 53 = .ok (.iload_n 1, 1) := by decide +kernel
theorem dX13_count_54 : decode cX13_count 54 = .ok (.iconst 2, 1) := by decide +kernel
theorem dX13_count_55 : decode cX13_count 55 = .ok (.if_icmp .ne 9, 3) := by decide +kernel
theorem dX13_count_58 : decode cX13_count 58 = .ok (.aload_n 0, 1) := by decide +kernel
theorem dX13_count_59 : decode cX13_count 59 = .ok (.getfield 13, 3) := by decide +kernel
theorem dX13_count_62 : decode cX13_count 62 = .ok (.i2l, 1) := by decide +kernel
theorem dX13_count_63 : decode cX13_count 63 = .ok (.lreturn, 1) := by decide +kernel
theorem dX13_count_64 : decode cX13_count 64 = .ok (.iload_n 1, 1) := by decide +kernel
theorem dX13_count_65 : decode cX13_count 65 = .ok (.iconst 3, 1) := by decide +kernel
theorem dX13_count_66 : decode cX13_count 66 = .ok (.if_icmp .ne 8, 3) := by decide +kernel
theorem dX13_count_69 : decode cX13_count 69 = .ok (.aload_n 0, 1) := by decide +kernel
theorem dX13_count_70 : decode cX13_count 70 = .ok (.getfield 255, 3) := by decide +kernel
theorem dX13_count_73 : decode cX13_count 73 = .ok (.lreturn, 1) := by decide +kernel
theorem dX13_count_74 : decode cX13_count 74 = .ok (.iload_n 1, 1) := by decide +kernel
theorem dX13_count_75 : decode cX13_count 75 = .ok (.iconst 4, 1) := by decide +kernel
theorem dX13_count_76 : decode cX13_count 76 = .ok (.if_icmp .ne 10, 3) := by decide +kernel
theorem dX13_count_79 : decode cX13_count 79 = .ok (.aload_n 0, 1) := by decide +kernel
theorem dX13_count_80 : decode cX13_count 80 = .ok (.getfield 245, 3) := by decide +kernel
theorem dX13_count_83 : decode cX13_count 83 = .ok (.goto 15, 3) := by decide +kernel
theorem dX13_count_86 : decode cX13_count 86 = .ok (.aload_n 0, 1) := by decide +kernel
theorem dX13_count_87 : decode cX13_count 87 = .ok (.getfield 135, 3) := by decide +kernel
theorem dX13_count_90 : decode cX13_count 90 = .ok (.iload_n 1, 1) := by decide +kernel
theorem dX13_count_91 : decode cX13_count 91 = .ok (.bipush 10, 2) := by decide +kernel
theorem dX13_count_93 : decode cX13_count 93 = .ok (.isub, 1) := by decide +kernel
theorem dX13_count_94 : decode cX13_count 94 = .ok (.iaload, 1) := by decide +kernel
theorem dX13_count_95 : decode cX13_count 95 = .ok (.iconst 1, 1) := by decide +kernel
theorem dX13_count_96 : decode cX13_count 96 = .ok (.isub, 1) := by decide +kernel
theorem dX13_count_97 : decode cX13_count 97 = .ok (.i2l, 1) := by decide +kernel
theorem dX13_count_98 : decode cX13_count 98 = .ok (.lreturn, 1) := by decide +kernel

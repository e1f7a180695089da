theorem dX1_init_0 : decode cX1_init 0 = .ok (.aload_n 0, 1) := by decide +kernel
theorem dX1_init_1 : decode cX1_init 1 = .ok (.iload_n 1, 1) := by decide +kernel
theorem dX1_init_2 : decode cX1_init 2 = .ok (.bipush 7, 2) := by decide +kernel
theorem dX1_init_4 : decode cX1_init 4 = .ok (.invokespecial 3, 3) := by decide +kernel
theorem dX1_init_7 : decode cX1_init 7 = .ok (.aload_n 0, 1) := by decide +kernel
theorem dX1_init_8 : decode cX1_init 8 = .ok (.iconst (-1), 1) := by decide +kernel
theorem dX1_init_9 : decode cX1_init 9 = .ok (.putfield 9, 3) := by decide +kernel
theorem dX1_init_12 : decode cX1_init 12 = .ok (.return_, 1) := by decide +kernel
theorem dX1_perform_0 : decode cX1_perform 0 = .ok (.getstatic 15, 3) := by decide +kernel
theorem dX1_perform_3 : decode cX1_perform 3 = .ok (.aload_n 2, 1) := by decide +kernel
theorem dX1_perform_4 : decode cX1_perform 4 = .ok (.invokevirtual 21, 3) := by decide +kernel
theorem dX1_perform_7 : decode cX1_perform 7 = .ok (.iaload, 1) := by decide +kernel
theorem dX1_perform_8 : decode cX1_perform 8 = .ok (.tableswitch 117 20 22 #[28, 71, 79], 28) := by decide +kernel
theorem dX1_perform_36 : decode cX1_perform 36 = .ok (.aload_n 0, 1) := by decide +kernel
theorem dX1_perform_37 : decode cX1_perform 37 = .ok (.getfield 9, 3) := by decide +kernel
theorem dX1_perform_40 : decode cX1_perform 40 = .ok (.iconst (-1), 1) := by decide +kernel
theorem dX1_perform_41 : decode cX1_perform 41 = .ok (.if_icmp .ne 30, 3) := by decide +kernel
theorem dX1_perform_44 : decode cX1_perform 44 = .ok (.aload_n 0, 1) := by decide +kernel
theorem dX1_perform_45 : decode cX1_perform 45 = .ok (.getfield 27, 3) := by decide +kernel
theorem dX1_perform_48 : decode cX1_perform 48 = .ok (.getfield 31, 3) := by decide +kernel
theorem dX1_perform_51 : decode cX1_perform 51 = .ok (.ifCond .ne 20, 3) := by decide +kernel
theorem dX1_perform_54 : decode cX1_perform 54 = .ok (.aload_n 0, 1) := by decide +kernel
theorem dX1_perform_55 : decode cX1_perform 55 = .ok (.dup, 1) := by decide +kernel
theorem dX1_perform_56 : decode cX1_perform 56 = .ok (.getfield 36, 3) := by decide +kernel
theorem dX1_perform_59 : decode cX1_perform 59 = .ok (.iconst 1, 1) := by decide +kernel
theorem dX1_perform_60 : decode cX1_perform 60 = .ok (.iadd, 1) := by decide +kernel
theorem dX1_perform_61 : decode cX1_perform 61 = .ok (.putfield 36, 3) := by decide +kernel
theorem dX1_perform_64 : decode cX1_perform 64 = .ok (.aload_n 1, 1) := by decide +kernel
theorem dX1_perform_65 : decode cX1_perform 65 = .ok (.invokevirtual 39, 3) := by decide +kernel
theorem dX1_perform_68 : decode cX1_perform 68 = .ok (.goto 62, 3) := by decide +kernel
theorem dX1_perform_71 : decode cX1_perform 71 = .ok (.aload_n 0, 1) := by decide +kernel
theorem dX1_perform_72 : decode cX1_perform 72 = .ok (.aload_n 1, 1) := by decide +kernel
theorem dX1_perform_73 : decode cX1_perform 73 = .ok (.invokevirtual 45, 3) := by decide +kernel
theorem dX1_perform_76 : decode cX1_perform 76 = .ok (.goto 54, 3) := by decide +kernel
theorem dX1_perform_79 : decode cX1_perform 79 = .ok (.aload_n 0, 1) := by decide +kernel
theorem dX1_perform_80 : decode cX1_perform 80 = .ok (.aload_n 1, 1) := by decide +kernel
theorem dX1_perform_81 : decode cX1_perform 81 = .ok (.invokevirtual 49, 3) := by decide +kernel
theorem dX1_perform_84 : decode cX1_perform 84 = .ok (.goto 46, 3) := by decide +kernel
theorem dX1_perform_87 : decode cX1_perform 87 = .ok (.aload_n 0, 1) := by decide +kernel
theorem dX1_perform_88 : decode cX1_perform 88 = .ok (.getfield 9, 3) := by decide +kernel
theorem dX1_perform_91 : decode cX1_perform 91 = .ok (.iconst (-1), 1) := by decide +kernel
theorem dX1_perform_92 : decode cX1_perform 92 = .ok (.if_icmp .ne 25, 3) := by decide +kernel
theorem dX1_perform_95 : decode cX1_perform 95 = .ok (.aload_n 0, 1) := by decide +kernel
theorem dX1_perform_96 : decode cX1_perform 96 = .ok (.getfield 36, 3) := by decide +kernel
theorem dX1_perform_99 : decode cX1_perform 99 = .ok (.ifCond .ne 18, 3) := by decide +kernel
theorem dX1_perform_102 : decode cX1_perform 102 = .ok (.aload_n 0, 1) := by decide +kernel
theorem dX1_perform_103 : decode cX1_perform 103 = .ok (.aload_n 1, 1) := by decide +kernel
theorem dX1_perform_104 : decode cX1_perform 104 = .ok (.getfield 52, 3) := by decide +kernel
theorem dX1_perform_107 : decode cX1_perform 107 = .ok (.putfield 9, 3) := by decide +kernel
theorem dX1_perform_110 : decode cX1_perform 110 = .ok (.aload_n 1, 1) := by decide +kernel
theorem dX1_perform_111 : decode cX1_perform 111 = .ok (.invokevirtual 39, 3) := by decide +kernel
theorem dX1_perform_114 : decode cX1_perform 114 = .ok (.goto 16, 3) := by decide +kernel
theorem dX1_perform_117 : decode cX1_perform 117 = .ok (.aload_n 0, 1) := by decide +kernel
theorem dX1_perform_118 : decode cX1_perform 118 = .ok (.aload_n 1, 1) := by decide +kernel
theorem dX1_perform_119 : decode cX1_perform 119 = .ok (.invokevirtual 45, 3) := by decide +kernel
theorem dX1_perform_122 : decode cX1_perform 122 = .ok (.goto 8, 3) := by decide +kernel
theorem dX1_perform_125 : decode cX1_perform 125 = .ok (.aload_n 0, 1) := by decide +kernel
theorem dX1_perform_126 : decode cX1_perform 126 = .ok (.aload_n 1, 1) := by decide +kernel
theorem dX1_perform_127 : decode cX1_perform 127 = .ok (.invokevirtual 55, 3) := by decide +kernel
theorem dX1_perform_130 : decode cX1_perform 130 = .ok (.return_, 1) := by decide +kernel
theorem dX1_leave_0 : decode cX1_leave 0 = .ok (.aload_n 0, 1) := by decide +kernel
theorem dX1_leave_1 : decode cX1_leave 1 = .ok (.getfield 36, 3) := by decide +kernel
theorem dX1_leave_4 : decode cX1_leave 4 = .ok (.ifCond .ne 9, 3) := by decide +kernel
theorem dX1_leave_7 : decode cX1_leave 7 = .ok (.aload_n 1, 1) := by decide +kernel
theorem dX1_leave_8 : decode cX1_leave 8 = .ok (.iconst 3, 1) := by decide +kernel
theorem dX1_leave_9 : decode cX1_leave 9 = .ok (.invokevirtual 58, 3) := by decide +kernel
theorem dX1_leave_12 : decode cX1_leave 12 = .ok (.return_, 1) := by decide +kernel
theorem dX1_leave_13 : decode cX1_leave 13 = .ok (.aload_n 0, 1) := by decide +kernel
theorem dX1_leave_14 : decode cX1_leave 14 = .ok (.dup, 1) := by decide +kernel
theorem dX1_leave_15 : decode cX1_leave 15 = .ok (.getfield 36, 3) := by decide +kernel
theorem dX1_leave_18 : decode cX1_leave 18 = .ok (.iconst 1, 1) := by decide +kernel
theorem dX1_leave_19 : decode cX1_leave 19 = .ok (.isub, 1) := by decide +kernel
theorem dX1_leave_20 : decode cX1_leave 20 = .ok (.putfield 36, 3) := by decide +kernel
theorem dX1_leave_23 : decode cX1_leave 23 = .ok (.aload_n 1, 1) := by decide +kernel
theorem dX1_leave_24 : decode cX1_leave 24 = .ok (.invokevirtual 39, 3) := by decide +kernel
theorem dX1_leave_27 : decode cX1_leave 27 = .ok (.aload_n 0, 1) := by decide +kernel
theorem dX1_leave_28 : decode cX1_leave 28 = .ok (.getfield 36, 3) := by decide +kernel
theorem dX1_leave_31 : decode cX1_leave 31 = .ok (.ifCond .ne 7, 3) := by decide +kernel
theorem dX1_leave_34 : decode cX1_leave 34 = .ok (.aload_n 0, 1) := by decide +kernel
theorem dX1_leave_35 : decode cX1_leave 35 = .ok (.invokevirtual 62, 3) := by decide +kernel
theorem dX1_leave_38 : decode cX1_leave 38 = .ok (.return_, 1) := by decide +kernel
theorem dX1_giveBack_0 : decode cX1_giveBack 0 = .ok (.aload_n 0, 1) := by decide +kernel
theorem dX1_giveBack_1 : decode cX1_giveBack 1 = .ok (.getfield 9, 3) := by decide +kernel
theorem dX1_giveBack_4 : decode cX1_giveBack 4 = .ok (.aload_n 1, 1) := by decide +kernel
theorem dX1_giveBack_5 : decode cX1_giveBack 5 = .ok (.getfield 52, 3) := by decide +kernel
theorem dX1_giveBack_8 : decode cX1_giveBack 8 = .ok (.if_icmp .eq 9, 3) := by decide +kernel
theorem dX1_giveBack_11 : decode cX1_giveBack 11 = .ok (.aload_n 1, 1) := by decide +kernel
theorem dX1_giveBack_12 : decode cX1_giveBack 12 = .ok (.iconst 1, 1) := by decide +kernel
theorem dX1_giveBack_13 : decode cX1_giveBack 13 = .ok (.invokevirtual 58, 3) := by decide +kernel
theorem dX1_giveBack_16 : decode cX1_giveBack 16 = .ok (.return_, 1) := by decide +kernel
theorem dX1_giveBack_17 : decode cX1_giveBack 17 = .ok (.aload_n 0, 1) := by decide +kernel
theorem dX1_giveBack_18 : decode cX1_giveBack 18 = .ok (.iconst (-1), 1) := by decide +kernel
theorem dX1_giveBack_19 : decode cX1_giveBack 19 = .ok (.putfield 9, 3) := by decide +kernel
theorem dX1_giveBack_22 : decode cX1_giveBack 22 = .ok (.aload_n 1, 1) := by decide +kernel
theorem dX1_giveBack_23 : decode cX1_giveBack 23 = .ok (.invokevirtual 39, 3) := by decide +kernel
theorem dX1_giveBack_26 : decode cX1_giveBack 26 = .ok (.aload_n 0, 1) := by decide +kernel
theorem dX1_giveBack_27 : decode cX1_giveBack 27 = .ok (.invokevirtual 62, 3) := by decide +kernel
theorem dX1_giveBack_30 : decode cX1_giveBack 30 = .ok (.return_, 1) := by decide +kernel
theorem dX1_rowGoesOn_0 : decode cX1_rowGoesOn 0 = .ok (.iconst 0, 1) := by decide +kernel
theorem dX1_rowGoesOn_1 : decode cX1_rowGoesOn 1 = .ok (.istore_n 1, 1) := by decide +kernel
theorem dX1_rowGoesOn_2 : decode cX1_rowGoesOn 2 = .ok (.iload_n 1, 1) := by decide +kernel
theorem dX1_rowGoesOn_3 : decode cX1_rowGoesOn 3 = .ok (.bipush 8, 2) := by decide +kernel
theorem dX1_rowGoesOn_5 : decode cX1_rowGoesOn 5 = .ok (.if_icmp .ge 76, 3) := by decide +kernel
theorem dX1_rowGoesOn_8 : decode cX1_rowGoesOn 8 = .ok (.aload_n 0, 1) := by decide +kernel
theorem dX1_rowGoesOn_9 : decode cX1_rowGoesOn 9 = .ok (.getfield 9, 3) := by decide +kernel
theorem dX1_rowGoesOn_12 : decode cX1_rowGoesOn 12 = .ok (.iconst (-1), 1) := by decide +kernel
theorem dX1_rowGoesOn_13 : decode cX1_rowGoesOn 13 = .ok (.if_icmp .ne 68, 3) := by decide +kernel
theorem dX1_rowGoesOn_16 : decode cX1_rowGoesOn 16 = .ok (.aload_n 0, 1) := by decide +kernel
theorem dX1_rowGoesOn_17 : decode cX1_rowGoesOn 17 = .ok (.getfield 27, 3) := by decide +kernel
theorem dX1_rowGoesOn_20 : decode cX1_rowGoesOn 20 = .ok (.invokevirtual 65, 3) := by decide +kernel
theorem dX1_rowGoesOn_23 : decode cX1_rowGoesOn 23 = .ok (.astore_n 2, 1) := by decide +kernel
theorem dX1_rowGoesOn_24 : decode cX1_rowGoesOn 24 = .ok (.aload_n 2, 1) := by decide +kernel
theorem dX1_rowGoesOn_25 : decode cX1_rowGoesOn 25 = .ok (.ifnonnull 4, 3) := by decide +kernel
theorem dX1_rowGoesOn_28 : decode cX1_rowGoesOn 28 = .ok (.return_, 1) := by decide +kernel
theorem dX1_rowGoesOn_29 : decode cX1_rowGoesOn 29 = .ok (.aload_n 2, 1) := by decide +kernel
theorem dX1_rowGoesOn_30 : decode cX1_rowGoesOn 30 = .ok (.invokevirtual 69, 3) := by decide +kernel
theorem dX1_rowGoesOn_33 : decode cX1_rowGoesOn 33 = .ok (.getstatic 73, 3) := by decide +kernel
theorem dX1_rowGoesOn_36 : decode cX1_rowGoesOn 36 = .ok (.if_acmp .eq 16, 3) := by decide +kernel
theorem dX1_rowGoesOn_39 : decode cX1_rowGoesOn 39 = .ok (.aload_n 0, 1) := by decide +kernel
theorem dX1_rowGoesOn_40 : decode cX1_rowGoesOn 40 = .ok (.dup, 1) := by decide +kernel
theorem dX1_rowGoesOn_41 : decode cX1_rowGoesOn 41 = .ok (.getfield 36, 3) := by decide +kernel
theorem dX1_rowGoesOn_44 : decode cX1_rowGoesOn 44 = .ok (.iconst 1, 1) := by decide +kernel
theorem dX1_rowGoesOn_45 : decode cX1_rowGoesOn 45 = .ok (.iadd, 1) := by decide +kernel
theorem dX1_rowGoesOn_46 : decode cX1_rowGoesOn 46 = .ok (.putfield 36, 3) := by decide +kernel
theorem dX1_rowGoesOn_49 : decode cX1_rowGoesOn 49 = .ok (.goto 22, 3) := by decide +kernel
theorem dX1_rowGoesOn_52 : decode cX1_rowGoesOn 52 = .ok (.aload_n 0, 1) := by decide +kernel
theorem dX1_rowGoesOn_53 : decode cX1_rowGoesOn 53 = .ok (.getfield 36, 3) := by decide +kernel
theorem dX1_rowGoesOn_56 : decode cX1_rowGoesOn 56 = .ok (.ifCond .ne 14, 3) := by decide +kernel
theorem dX1_rowGoesOn_59 : decode cX1_rowGoesOn 59 = .ok (.aload_n 0, 1) := by decide +kernel
theorem dX1_rowGoesOn_60 : decode cX1_rowGoesOn 60 = .ok (.aload_n 2, 1) := by decide +kernel
theorem dX1_rowGoesOn_61 : decode cX1_rowGoesOn 61 = .ok (.getfield 52, 3) := by decide +kernel
theorem dX1_rowGoesOn_64 : decode cX1_rowGoesOn 64 = .ok (.putfield 9, 3) := by decide +kernel
theorem dX1_rowGoesOn_67 : decode cX1_rowGoesOn 67 = .ok (.goto 4, 3) := by decide +kernel
theorem dX1_rowGoesOn_70 : decode cX1_rowGoesOn 70 = .ok (.return_, 1) := by decide +kernel
theorem dX1_rowGoesOn_71 : decode cX1_rowGoesOn 71 = .ok (.aload_n 2, 1) := by decide +kernel
theorem dX1_rowGoesOn_72 : decode cX1_rowGoesOn 72 = .ok (.invokevirtual 39, 3) := by decide +kernel
theorem dX1_rowGoesOn_75 : decode cX1_rowGoesOn 75 = .ok (.iinc 1 1, 3) := by decide +kernel
theorem dX1_rowGoesOn_78 : decode cX1_rowGoesOn 78 = .ok (.goto (-76), 3) := by decide +kernel
theorem dX1_rowGoesOn_81 : decode cX1_rowGoesOn 81 = .ok (.return_, 1) := by decide +kernel
theorem dX1_value_0 : decode cX1_value 0 = .ok (.aload_n 0, 1) := by decide +kernel
theorem dX1_value_1 : decode cX1_value 1 = .ok (.getfield 36, 3) := by decide +kernel
theorem dX1_value_4 : decode cX1_value 4 = .ok (.i2l, 1) := by decide +kernel
theorem dX1_value_5 : decode cX1_value 5 = .ok (.lreturn, 1) := by decide +kernel
theorem dX1_tells_0 : decode cX1_tells 0 = .ok (.iload_n 1, 1) := by decide +kernel
theorem dX1_tells_1 : decode cX1_tells 1 = .ok (.iconst 2, 1) := by decide +kernel
theorem dX1_tells_2 : decode cX1_tells 2 = .ok (.if_icmp .gt 7, 3) := by decide +kernel
theorem dX1_tells_5 : decode cX1_tells 5 = .ok (.iconst 1, 1) := by decide +kernel
theorem dX1_tells_6 : decode cX1_tells 6 = .ok (.goto 4, 3) := by decide +kernel
theorem dX1_tells_9 : decode cX1_tells 9 = .ok (.iconst 0, 1) := by decide +kernel
theorem dX1_tells_10 : decode cX1_tells 10 = .ok (.ireturn, 1) := by decide +kernel
theorem dX1_detail_0 : decode cX1_detail 0 = .ok (.aload_n 0, 1) := by decide +kernel
theorem dX1_detail_1 : decode cX1_detail 1 = .ok (.getfield 9, 3) := by decide +kernel
theorem dX1_detail_4 : decode cX1_detail 4 = .ok (.i2l, 1) := by decide +kernel
theorem dX1_detail_5 : decode cX1_detail 5 = .ok (.lreturn, 1) := by decide +kernel
theorem dX2_init_0 : decode cX2_init 0 = .ok (.aload_n 0, 1) := by decide +kernel
theorem dX2_init_1 : decode cX2_init 1 = .ok (.iload_n 1, 1) := by decide +kernel
theorem dX2_init_2 : decode cX2_init 2 = .ok (.iload_n 2, 1) := by decide +kernel
theorem dX2_init_3 : decode cX2_init 3 = .ok (.invokespecial 3, 3) := by decide +kernel
theorem dX2_init_6 : decode cX2_init 6 = .ok (.aload_n 0, 1) := by decide +kernel
theorem dX2_init_7 : decode cX2_init 7 = .ok (.iload_n 3, 1) := by decide +kernel
theorem dX2_init_8 : decode cX2_init 8 = .ok (.putfield 9, 3) := by decide +kernel
theorem dX2_init_11 : decode cX2_init 11 = .ok (.aload_n 0, 1) := by decide +kernel
theorem dX2_init_12 : decode cX2_init 12 = .ok (.iload 4, 2) := by decide +kernel
theorem dX2_init_14 : decode cX2_init 14 = .ok (.putfield 15, 3) := by decide +kernel
theorem dX2_init_17 : decode cX2_init 17 = .ok (.return_, 1) := by decide +kernel
theorem dX2_perform_0 : decode cX2_perform 0 = .ok (.getstatic 19, 3) := by decide +kernel
theorem dX2_perform_3 : decode cX2_perform 3 = .ok (.aload_n 2, 1) := by decide +kernel
theorem dX2_perform_4 : decode cX2_perform 4 = .ok (.invokevirtual 25, 3) := by decide +kernel
theorem dX2_perform_7 : decode cX2_perform 7 = .ok (.iaload, 1) := by decide +kernel
theorem dX2_perform_8 : decode cX2_perform 8 = .ok (.tableswitch 164 15 19 #[36, 47, 62, 87, 141], 36) := by decide +kernel
theorem dX2_perform_44 : decode cX2_perform 44 = .ok (.aload_n 1, 1) := by decide +kernel
theorem dX2_perform_45 : decode cX2_perform 45 = .ok (.aload_n 0, 1) := by decide +kernel
theorem dX2_perform_46 : decode cX2_perform 46 = .ok (.getfield 15, 3) := by decide +kernel
theorem dX2_perform_49 : decode cX2_perform 49 = .ok (.invokevirtual 31, 3) := by decide +kernel
theorem dX2_perform_52 : decode cX2_perform 52 = .ok (.goto 143, 3) := by decide +kernel
theorem dX2_perform_55 : decode cX2_perform 55 = .ok (.aload_n 0, 1) := by decide +kernel
theorem dX2_perform_56 : decode cX2_perform 56 = .ok (.aload_n 1, 1) := by decide +kernel
theorem dX2_perform_57 : decode cX2_perform 57 = .ok (.getfield 37, 3) := by decide +kernel
theorem dX2_perform_60 : decode cX2_perform 60 = .ok (.putfield 15, 3) := by decide +kernel
theorem dX2_perform_63 : decode cX2_perform 63 = .ok (.aload_n 1, 1) := by decide +kernel
theorem dX2_perform_64 : decode cX2_perform 64 = .ok (.invokevirtual 40, 3) := by decide +kernel
theorem dX2_perform_67 : decode cX2_perform 67 = .ok (.goto 128, 3) := by decide +kernel
theorem dX2_perform_70 : decode cX2_perform 70 = .ok (.aload_n 0, 1) := by decide +kernel
theorem dX2_perform_71 : decode cX2_perform 71 = .ok (.dup, 1) := by decide +kernel
theorem dX2_perform_72 : decode cX2_perform 72 = .ok (.getfield 15, 3) := by decide +kernel
theorem dX2_perform_75 : decode cX2_perform 75 = .ok (.aload_n 1, 1) := by decide +kernel
theorem dX2_perform_76 : decode cX2_perform 76 = .ok (.iconst 1, 1) := by decide +kernel
theorem dX2_perform_77 : decode cX2_perform 77 = .ok (.invokevirtual 44, 3) := by decide +kernel
theorem dX2_perform_80 : decode cX2_perform 80 = .ok (.iadd, 1) := by decide +kernel
theorem dX2_perform_81 : decode cX2_perform 81 = .ok (.putfield 15, 3) := by decide +kernel
theorem dX2_perform_84 : decode cX2_perform 84 = .ok (.aload_n 1, 1) := by decide +kernel
theorem dX2_perform_85 : decode cX2_perform 85 = .ok (.aload_n 0, 1) := by decide +kernel
theorem dX2_perform_86 : decode cX2_perform 86 = .ok (.getfield 15, 3) := by decide +kernel
theorem dX2_perform_89 : decode cX2_perform 89 = .ok (.invokevirtual 31, 3) := by decide +kernel
theorem dX2_perform_92 : decode cX2_perform 92 = .ok (.goto 103, 3) := by decide +kernel
theorem dX2_perform_95 : decode cX2_perform 95 = .ok (.aload_n 0, 1) := by decide +kernel
theorem dX2_perform_96 : decode cX2_perform 96 = .ok (.getfield 15, 3) := by decide +kernel
theorem dX2_perform_99 : decode cX2_perform 99 = .ok (.aload_n 1, 1) := by decide +kernel
theorem dX2_perform_100 : decode cX2_perform 100 = .ok (.iconst 1, 1) := by decide +kernel
theorem dX2_perform_101 : decode cX2_perform 101 = .ok (.invokevirtual 44, 3) := by decide +kernel
theorem dX2_perform_104 : decode cX2_perform 104 = .ok (.if_icmp .ne 7, 3) := by decide +kernel
theorem dX2_perform_107 : decode cX2_perform 107 = .ok (.iconst 1, 1) := by decide +kernel
theorem dX2_perform_108 : decode cX2_perform 108 = .ok (.goto 4, 3) := by decide +kernel
theorem dX2_perform_111 : decode cX2_perform 111 = .ok (.iconst 0, 1) := by decide +kernel
theorem dX2_perform_112 : decode cX2_perform 112 = .ok (.istore_n 3, 1) := by decide +kernel
theorem dX2_perform_113 : decode cX2_perform 113 = .ok (.aload_n 0, 1) := by decide +kernel
theorem dX2_perform_114 : decode cX2_perform 114 = .ok (.iload_n 3, 1) := by decide +kernel
theorem dX2_perform_115 : decode cX2_perform 115 = .ok (.ifCond .eq 11, 3) := by decide +kernel
theorem dX2_perform_118 : decode cX2_perform 118 = .ok (.aload_n 1, 1) := by decide +kernel
theorem dX2_perform_119 : decode cX2_perform 119 = .ok (.iconst 2, 1) := by decide +kernel
theorem dX2_perform_120 : decode cX2_perform 120 = .ok (.invokevirtual 44, 3) := by decide +kernel
theorem dX2_perform_123 : decode cX2_perform 123 = .ok (.goto 7, 3) := by decide +kernel
theorem dX2_perform_126 : decode cX2_perform 126 = .ok (.aload_n 0, 1) := by decide +kernel
theorem dX2_perform_127 : decode cX2_perform 127 = .ok (.getfield 15, 3) := by decide +kernel
theorem dX2_perform_130 : decode cX2_perform 130 = .ok (.putfield 15, 3) := by decide +kernel
theorem dX2_perform_133 : decode cX2_perform 133 = .ok (.aload_n 1, 1) := by decide +kernel
theorem dX2_perform_134 : decode cX2_perform 134 = .ok (.iload_n 3, 1) := by decide +kernel
theorem dX2_perform_135 : decode cX2_perform 135 = .ok (.ifCond .eq 7, 3) := by decide +kernel
theorem dX2_perform_138 : decode cX2_perform 138 = .ok (.iconst 1, 1) := by decide +kernel
theorem dX2_perform_139 : decode cX2_perform 139 = .ok (.goto 4, 3) := by decide +kernel
theorem dX2_perform_142 : decode cX2_perform 142 = .ok (.iconst 0, 1) := by decide +kernel
theorem dX2_perform_143 : decode cX2_perform 143 = .ok (.invokevirtual 31, 3) := by decide +kernel
theorem dX2_perform_146 : decode cX2_perform 146 = .ok (.goto 49, 3) := by decide +kernel
theorem dX2_perform_149 : decode cX2_perform 149 = .ok (.aload_n 1, 1) := by decide +kernel
theorem dX2_perform_150 : decode cX2_perform 150 = .ok (.aload_n 0, 1) := by decide +kernel
theorem dX2_perform_151 : decode cX2_perform 151 = .ok (.aload_n 1, 1) := by decide +kernel
theorem dX2_perform_152 : decode cX2_perform 152 = .ok (.getfield 37, 3) := by decide +kernel
theorem dX2_perform_155 : decode cX2_perform 155 = .ok (.invokevirtual 48, 3) := by decide +kernel
theorem dX2_perform_158 : decode cX2_perform 158 = .ok (.ifCond .eq 7, 3) := by decide +kernel
theorem dX2_perform_161 : decode cX2_perform 161 = .ok (.iconst 1, 1) := by decide +kernel
theorem dX2_perform_162 : decode cX2_perform 162 = .ok (.goto 4, 3) := by decide +kernel
theorem dX2_perform_165 : decode cX2_perform 165 = .ok (.iconst 0, 1) := by decide +kernel
theorem dX2_perform_166 : decode cX2_perform 166 = .ok (.invokevirtual 31, 3) := by decide +kernel
theorem dX2_perform_169 : decode cX2_perform 169 = .ok (.goto 26, 3) := by decide +kernel
theorem dX2_perform_172 : decode cX2_perform 172 = .ok (.aload_n 0, 1) := by decide +kernel
theorem dX2_perform_173 : decode cX2_perform 173 = .ok (.getfield 9, 3) := by decide +kernel
theorem dX2_perform_176 : decode cX2_perform 176 = .ok (.ifCond .eq 14, 3) := by decide +kernel
theorem dX2_perform_179 : decode cX2_perform 179 = .ok (.aload_n 1, 1) := by decide +kernel
theorem dX2_perform_180 : decode cX2_perform 180 = .ok (.aload_n 0, 1) := by decide +kernel
theorem dX2_perform_181 : decode cX2_perform 181 = .ok (.getfield 15, 3) := by decide +kernel
theorem dX2_perform_184 : decode cX2_perform 184 = .ok (.invokevirtual 31, 3) := by decide +kernel
theorem dX2_perform_187 : decode cX2_perform 187 = .ok (.goto 8, 3) := by decide +kernel
theorem dX2_perform_190 : decode cX2_perform 190 = .ok (.aload_n 0, 1) := by decide +kernel
theorem dX2_perform_191 : decode cX2_perform 191 = .ok (.aload_n 1, 1) := by decide +kernel
theorem dX2_perform_192 : decode cX2_perform 192 = .ok (.invokevirtual 52, 3) := by decide +kernel
theorem dX2_perform_195 : decode cX2_perform 195 = .ok (.return_, 1) := by decide +kernel
theorem dX2_isGiven_0 : decode cX2_isGiven 0 = .ok (.aload_n 0, 1) := by decide +kernel
theorem dX2_isGiven_1 : decode cX2_isGiven 1 = .ok (.getfield 9, 3) := by decide +kernel
theorem dX2_isGiven_4 : decode cX2_isGiven 4 = .ok (.ifCond .eq 5, 3) := by decide +kernel
theorem dX2_isGiven_7 : decode cX2_isGiven 7 = .ok (.iconst 0, 1) := by decide +kernel
theorem dX2_isGiven_8 : decode cX2_isGiven 8 = .ok (.ireturn, 1) := by decide +kernel
theorem dX2_isGiven_9 : decode cX2_isGiven 9 = .ok (.aload_n 0, 1) := by decide +kernel
theorem dX2_isGiven_10 : decode cX2_isGiven 10 = .ok (.iconst 1, 1) := by decide +kernel
theorem dX2_isGiven_11 : decode cX2_isGiven 11 = .ok (.putfield 9, 3) := by decide +kernel
theorem dX2_isGiven_14 : decode cX2_isGiven 14 = .ok (.aload_n 0, 1) := by decide +kernel
theorem dX2_isGiven_15 : decode cX2_isGiven 15 = .ok (.iload_n 1, 1) := by decide +kernel
theorem dX2_isGiven_16 : decode cX2_isGiven 16 = .ok (.putfield 15, 3) := by decide +kernel
theorem dX2_isGiven_19 : decode cX2_isGiven 19 = .ok (.iconst 0, 1) := by decide +kernel
theorem dX2_isGiven_20 : decode cX2_isGiven 20 = .ok (.istore_n 2, 1) := by decide +kernel
theorem dX2_isGiven_21 : decode cX2_isGiven 21 = .ok (.iload_n 2, 1) := by decide +kernel
theorem dX2_isGiven_22 : decode cX2_isGiven 22 = .ok (.bipush 8, 2) := by decide +kernel
theorem dX2_isGiven_24 : decode cX2_isGiven 24 = .ok (.if_icmp .ge 26, 3) := by decide +kernel
theorem dX2_isGiven_27 : decode cX2_isGiven 27 = .ok (.aload_n 0, 1) := by decide +kernel
theorem dX2_isGiven_28 : decode cX2_isGiven 28 = .ok (.getfield 56, 3) := by decide +kernel
theorem dX2_isGiven_31 : decode cX2_isGiven 31 = .ok (.invokevirtual 60, 3) := by decide +kernel
theorem dX2_isGiven_34 : decode cX2_isGiven 34 = .ok (.astore_n 3, 1) := by decide +kernel
theorem dX2_isGiven_35 : decode cX2_isGiven 35 = .ok (.aload_n 3, 1) := by decide +kernel
theorem dX2_isGiven_36 : decode cX2_isGiven 36 = .ok (.ifnull 8, 3) := by decide +kernel
theorem dX2_isGiven_39 : decode cX2_isGiven 39 = .ok (.aload_n 3, 1) := by decide +kernel
theorem dX2_isGiven_40 : decode cX2_isGiven 40 = .ok (.iload_n 1, 1) := by decide +kernel
theorem dX2_isGiven_41 : decode cX2_isGiven 41 = .ok (.invokevirtual 31, 3) := by decide +kernel
theorem dX2_isGiven_44 : decode cX2_isGiven 44 = .ok (.iinc 2 1, 3) := by decide +kernel
theorem dX2_isGiven_47 : decode cX2_isGiven 47 = .ok (.goto (-26), 3) := by decide +kernel
theorem dX2_isGiven_50 : decode cX2_isGiven 50 = .ok (.iconst 1, 1) := by decide +kernel
theorem dX2_isGiven_51 : decode cX2_isGiven 51 = .ok (.ireturn, 1) := by decide +kernel
theorem dX2_value_0 : decode cX2_value 0 = .ok (.aload_n 0, 1) := by decide +kernel
theorem dX2_value_1 : decode cX2_value 1 = .ok (.getfield 9, 3) := by decide +kernel
theorem dX2_value_4 : decode cX2_value 4 = .ok (.ifCond .eq 11, 3) := by decide +kernel
theorem dX2_value_7 : decode cX2_value 7 = .ok (.aload_n 0, 1) := by decide +kernel
theorem dX2_value_8 : decode cX2_value 8 = .ok (.getfield 15, 3) := by decide +kernel
theorem dX2_value_11 : decode cX2_value 11 = .ok (.i2l, 1) := by decide +kernel
theorem dX2_value_12 : decode cX2_value 12 = .ok (.goto 6, 3) := by decide +kernel
theorem dX2_value_15 : decode cX2_value 15 = .ok (.ldc2_w 66, 3) := by decide +kernel
theorem dX2_value_18 : decode cX2_value 18 = .ok (.lreturn, 1) := by decide +kernel
theorem dX3_init_0 : decode cX3_init 0 = .ok (.aload_n 0, 1) := by decide +kernel
theorem dX3_init_1 : decode cX3_init 1 = .ok (.iload_n 1, 1) := by decide +kernel
theorem dX3_init_2 : decode cX3_init 2 = .ok (.iload_n 2, 1) := by decide +kernel
theorem dX3_init_3 : decode cX3_init 3 = .ok (.invokespecial 3, 3) := by decide +kernel
theorem dX3_init_6 : decode cX3_init 6 = .ok (.aload_n 0, 1) := by decide +kernel
theorem dX3_init_7 : decode cX3_init 7 = .ok (.iload_n 3, 1) := by decide +kernel
theorem dX3_init_8 : decode cX3_init 8 = .ok (.putfield 9, 3) := by decide +kernel
theorem dX3_init_11 : decode cX3_init 11 = .ok (.return_, 1) := by decide +kernel
theorem dX3_perform_0 : decode cX3_perform 0 = .ok (.getstatic 15, 3) := by decide +kernel
theorem dX3_perform_3 : decode cX3_perform 3 = .ok (.aload_n 2, 1) := by decide +kernel
theorem dX3_perform_4 : decode cX3_perform 4 = .ok (.invokevirtual 21, 3) := by decide +kernel
theorem dX3_perform_7 : decode cX3_perform 7 = .ok (.iaload, 1) := by decide +kernel
theorem dX3_perform_8 : decode cX3_perform 8 = .ok (.lookupswitch 85 #[(10, 28), (11, 63)], 28) := by decide +kernel
theorem dX3_perform_36 : decode cX3_perform 36 = .ok (.aload_n 1, 1) := by decide +kernel
theorem dX3_perform_37 : decode cX3_perform 37 = .ok (.invokevirtual 27, 3) := by decide +kernel
theorem dX3_perform_40 : decode cX3_perform 40 = .ok (.aload_n 0, 1) := by decide +kernel
theorem dX3_perform_41 : decode cX3_perform 41 = .ok (.getfield 9, 3) := by decide +kernel
theorem dX3_perform_44 : decode cX3_perform 44 = .ok (.ifCond .le 13, 3) := by decide +kernel
theorem dX3_perform_47 : decode cX3_perform 47 = .ok (.aload_n 0, 1) := by decide +kernel
theorem dX3_perform_48 : decode cX3_perform 48 = .ok (.dup, 1) := by decide +kernel
theorem dX3_perform_49 : decode cX3_perform 49 = .ok (.getfield 9, 3) := by decide +kernel
theorem dX3_perform_52 : decode cX3_perform 52 = .ok (.iconst 1, 1) := by decide +kernel
theorem dX3_perform_53 : decode cX3_perform 53 = .ok (.isub, 1) := by decide +kernel
theorem dX3_perform_54 : decode cX3_perform 54 = .ok (.putfield 9, 3) := by decide +kernel
theorem dX3_perform_57 : decode cX3_perform 57 = .ok (.aload_n 0, 1) := by decide +kernel
theorem dX3_perform_58 : decode cX3_perform 58 = .ok (.getfield 9, 3) := by decide +kernel
theorem dX3_perform_61 : decode cX3_perform 61 = .ok (.ifCond .ne 73, 3) := by decide +kernel
theorem dX3_perform_64 : decode cX3_perform 64 = .ok (.aload_n 0, 1) := by decide +kernel
theorem dX3_perform_65 : decode cX3_perform 65 = .ok (.invokevirtual 33, 3) := by decide +kernel
theorem dX3_perform_68 : decode cX3_perform 68 = .ok (.goto 66, 3) := by decide +kernel
theorem dX3_perform_71 : decode cX3_perform 71 = .ok (.aload_n 0, 1) := by decide +kernel
theorem dX3_perform_72 : decode cX3_perform 72 = .ok (.getfield 9, 3) := by decide +kernel
theorem dX3_perform_75 : decode cX3_perform 75 = .ok (.ifCond .ne 10, 3) := by decide +kernel
theorem dX3_perform_78 : decode cX3_perform 78 = .ok (.aload_n 1, 1) := by decide +kernel
theorem dX3_perform_79 : decode cX3_perform 79 = .ok (.invokevirtual 27, 3) := by decide +kernel
theorem dX3_perform_82 : decode cX3_perform 82 = .ok (.goto 52, 3) := by decide +kernel
theorem dX3_perform_85 : decode cX3_perform 85 = .ok (.aload_n 0, 1) := by decide +kernel
theorem dX3_perform_86 : decode cX3_perform 86 = .ok (.aload_n 1, 1) := by decide +kernel
theorem dX3_perform_87 : decode cX3_perform 87 = .ok (.invokevirtual 36, 3) := by decide +kernel
theorem dX3_perform_90 : decode cX3_perform 90 = .ok (.goto 44, 3) := by decide +kernel
theorem dX3_perform_93 : decode cX3_perform 93 = .ok (.aload_n 1, 1) := by decide +kernel
theorem dX3_perform_94 : decode cX3_perform 94 = .ok (.aload_n 0, 1) := by decide +kernel
theorem dX3_perform_95 : decode cX3_perform 95 = .ok (.getfield 9, 3) := by decide +kernel
theorem dX3_perform_98 : decode cX3_perform 98 = .ok (.aload_n 0, 1) := by decide +kernel
theorem dX3_perform_99 : decode cX3_perform 99 = .ok (.getfield 40, 3) := by decide +kernel
theorem dX3_perform_102 : decode cX3_perform 102 = .ok (.getfield 44, 3) := by decide +kernel
theorem dX3_perform_105 : decode cX3_perform 105 = .ok (.isub, 1) := by decide +kernel
theorem dX3_perform_106 : decode cX3_perform 106 = .ok (.iconst 1, 1) := by decide +kernel
theorem dX3_perform_107 : decode cX3_perform 107 = .ok (.isub, 1) := by decide +kernel
theorem dX3_perform_108 : decode cX3_perform 108 = .ok (.putfield 49, 3) := by decide +kernel
theorem dX3_perform_111 : decode cX3_perform 111 = .ok (.aload_n 1, 1) := by decide +kernel
theorem dX3_perform_112 : decode cX3_perform 112 = .ok (.getfield 49, 3) := by decide +kernel
theorem dX3_perform_115 : decode cX3_perform 115 = .ok (.ifCond .ne 14, 3) := by decide +kernel
theorem dX3_perform_118 : decode cX3_perform 118 = .ok (.aload_n 0, 1) := by decide +kernel
theorem dX3_perform_119 : decode cX3_perform 119 = .ok (.invokevirtual 33, 3) := by decide +kernel
theorem dX3_perform_122 : decode cX3_perform 122 = .ok (.aload_n 1, 1) := by decide +kernel
theorem dX3_perform_123 : decode cX3_perform 123 = .ok (.invokevirtual 27, 3) := by decide +kernel
theorem dX3_perform_126 : decode cX3_perform 126 = .ok (.goto 8, 3) := by decide +kernel
theorem dX3_perform_129 : decode cX3_perform 129 = .ok (.aload_n 0, 1) := by decide +kernel
theorem dX3_perform_130 : decode cX3_perform 130 = .ok (.aload_n 1, 1) := by decide +kernel
theorem dX3_perform_131 : decode cX3_perform 131 = .ok (.invokevirtual 36, 3) := by decide +kernel
theorem dX3_perform_134 : decode cX3_perform 134 = .ok (.return_, 1) := by decide +kernel
theorem dX3_value_0 : decode cX3_value 0 = .ok (.aload_n 0, 1) := by decide +kernel
theorem dX3_value_1 : decode cX3_value 1 = .ok (.getfield 52, 3) := by decide +kernel
theorem dX3_value_4 : decode cX3_value 4 = .ok (.iconst 2, 1) := by decide +kernel
theorem dX3_value_5 : decode cX3_value 5 = .ok (.if_icmp .ne 11, 3) := by decide +kernel
theorem dX3_value_8 : decode cX3_value 8 = .ok (.aload_n 0, 1) := by decide +kernel
theorem dX3_value_9 : decode cX3_value 9 = .ok (.getfield 9, 3) := by decide +kernel
theorem dX3_value_12 : decode cX3_value 12 = .ok (.i2l, 1) := by decide +kernel
theorem dX3_value_13 : decode cX3_value 13 = .ok (.goto 11, 3) := by decide +kernel
theorem dX3_value_16 : decode cX3_value 16 = .ok (.aload_n 0, 1) := by decide +kernel
theorem dX3_value_17 : decode cX3_value 17 = .ok (.getfield 40, 3) := by decide +kernel
theorem dX3_value_20 : decode cX3_value 20 = .ok (.getfield 44, 3) := by decide +kernel
theorem dX3_value_23 : decode cX3_value 23 = .ok (.i2l, 1) := by decide +kernel
theorem dX3_value_24 : decode cX3_value 24 = .ok (.lreturn, 1) := by decide +kernel
theorem dX4_init_0 : decode cX4_init 0 = .ok (.aload_n 0, 1) := by decide +kernel
theorem dX4_init_1 : decode cX4_init 1 = .ok (.iload_n 1, 1) := by decide +kernel
theorem dX4_init_2 : decode cX4_init 2 = .ok (.iconst 0, 1) := by decide +kernel
theorem dX4_init_3 : decode cX4_init 3 = .ok (.invokespecial 3, 3) := by decide +kernel
theorem dX4_init_6 : decode cX4_init 6 = .ok (.aload_n 0, 1) := by decide +kernel
theorem dX4_init_7 : decode cX4_init 7 = .ok (.iconst (-1), 1) := by decide +kernel
theorem dX4_init_8 : decode cX4_init 8 = .ok (.putfield 9, 3) := by decide +kernel
theorem dX4_init_11 : decode cX4_init 11 = .ok (.aload_n 0, 1) := by decide +kernel
theorem dX4_init_12 : decode cX4_init 12 = .ok (.new 15, 3) := by decide +kernel
theorem dX4_init_15 : decode cX4_init 15 = .ok (.dup, 1) := by decide +kernel
theorem dX4_init_16 : decode cX4_init 16 = .ok (.invokespecial 17, 3) := by decide +kernel
theorem dX4_init_19 : decode cX4_init 19 = .ok (.putfield 20, 3) := by decide +kernel
theorem dX4_init_22 : decode cX4_init 22 = .ok (.aload_n 0, 1) := by decide +kernel
theorem dX4_init_23 : decode cX4_init 23 = .ok (.iload_n 2, 1) := by decide +kernel
theorem dX4_init_24 : decode cX4_init 24 = .ok (.putfield 24, 3) := by decide +kernel
theorem dX4_init_27 : decode cX4_init 27 = .ok (.return_, 1) := by decide +kernel
theorem dX4_perform_0 : decode cX4_perform 0 = .ok (.aload_n 2, 1) := by decide +kernel
theorem dX4_perform_1 : decode cX4_perform 1 = .ok (.getstatic 28, 3) := by decide +kernel
theorem dX4_perform_4 : decode cX4_perform 4 = .ok (.if_acmp .ne 11, 3) := by decide +kernel
theorem dX4_perform_7 : decode cX4_perform 7 = .ok (.aload_n 0, 1) := by decide +kernel
theorem dX4_perform_8 : decode cX4_perform 8 = .ok (.aload_n 1, 1) := by decide +kernel
theorem dX4_perform_9 : decode cX4_perform 9 = .ok (.invokevirtual 34, 3) := by decide +kernel
theorem dX4_perform_12 : decode cX4_perform 12 = .ok (.goto 155, 3) := by decide +kernel
theorem dX4_perform_15 : decode cX4_perform 15 = .ok (.aload_n 2, 1) := by decide +kernel
theorem dX4_perform_16 : decode cX4_perform 16 = .ok (.getstatic 38, 3) := by decide +kernel
theorem dX4_perform_19 : decode cX4_perform 19 = .ok (.if_acmp .ne 23, 3) := by decide +kernel
theorem dX4_perform_22 : decode cX4_perform 22 = .ok (.aload_n 1, 1) := by decide +kernel
theorem dX4_perform_23 : decode cX4_perform 23 = .ok (.aload_n 0, 1) := by decide +kernel
theorem dX4_perform_24 : decode cX4_perform 24 = .ok (.aload_n 1, 1) := by decide +kernel
theorem dX4_perform_25 : decode cX4_perform 25 = .ok (.invokevirtual 41, 3) := by decide +kernel
theorem dX4_perform_28 : decode cX4_perform 28 = .ok (.ifCond .eq 7, 3) := by decide +kernel
theorem dX4_perform_31 : decode cX4_perform 31 = .ok (.iconst 1, 1) := by decide +kernel
theorem dX4_perform_32 : decode cX4_perform 32 = .ok (.goto 4, 3) := by decide +kernel
theorem dX4_perform_35 : decode cX4_perform 35 = .ok (.iconst 0, 1) := by decide +kernel
theorem dX4_perform_36 : decode cX4_perform 36 = .ok (.invokevirtual 45, 3) := by decide +kernel
theorem dX4_perform_39 : decode cX4_perform 39 = .ok (.goto 128, 3) := by decide +kernel
theorem dX4_perform_42 : decode cX4_perform 42 = .ok (.aload_n 0, 1) := by decide +kernel
theorem dX4_perform_43 : decode cX4_perform 43 = .ok (.getfield 9, 3) := by decide +kernel
theorem dX4_perform_46 : decode cX4_perform 46 = .ok (.aload_n 1, 1) := by decide +kernel
theorem dX4_perform_47 : decode cX4_perform 47 = .ok (.getfield 51, 3) := by decide +kernel
theorem dX4_perform_50 : decode cX4_perform 50 = .ok (.if_icmp .eq 11, 3) := by decide +kernel
theorem dX4_perform_53 : decode cX4_perform 53 = .ok (.aload_n 1, 1) := by decide +kernel
theorem dX4_perform_54 : decode cX4_perform 54 = .ok (.iconst 1, 1) := by decide +kernel
theorem dX4_perform_55 : decode cX4_perform 55 = .ok (.invokevirtual 54, 3) := by decide +kernel
theorem dX4_perform_58 : decode cX4_perform 58 = .ok (.goto 109, 3) := by decide +kernel
theorem dX4_perform_61 : decode cX4_perform 61 = .ok (.aload_n 2, 1) := by decide +kernel
theorem dX4_perform_62 : decode cX4_perform 62 = .ok (.getstatic 57, 3) := by decide +kernel
theorem dX4_perform_65 : decode cX4_perform 65 = .ok (.if_acmp .ne 31, 3) := by decide +kernel
theorem dX4_perform_68 : decode cX4_perform 68 = .ok (.aload_n 1, 1) := by decide +kernel
theorem dX4_perform_69 : decode cX4_perform 69 = .ok (.invokevirtual 60, 3) := by decide +kernel
theorem dX4_perform_72 : decode cX4_perform 72 = .ok (.aload_n 0, 1) := by decide +kernel
theorem dX4_perform_73 : decode cX4_perform 73 = .ok (.dup, 1) := by decide +kernel
theorem dX4_perform_74 : decode cX4_perform 74 = .ok (.getfield 63, 3) := by decide +kernel
theorem dX4_perform_77 : decode cX4_perform 77 = .ok (.iconst 1, 1) := by decide +kernel
theorem dX4_perform_78 : decode cX4_perform 78 = .ok (.isub, 1) := by decide +kernel
theorem dX4_perform_79 : decode cX4_perform 79 = .ok (.putfield 63, 3) := by decide +kernel
theorem dX4_perform_82 : decode cX4_perform 82 = .ok (.aload_n 0, 1) := by decide +kernel
theorem dX4_perform_83 : decode cX4_perform 83 = .ok (.getfield 63, 3) := by decide +kernel
theorem dX4_perform_86 : decode cX4_perform 86 = .ok (.ifCond .ne 81, 3) := by decide +kernel
theorem dX4_perform_89 : decode cX4_perform 89 = .ok (.aload_n 0, 1) := by decide +kernel
theorem dX4_perform_90 : decode cX4_perform 90 = .ok (.invokevirtual 66, 3) := by decide +kernel
theorem dX4_perform_93 : decode cX4_perform 93 = .ok (.goto 74, 3) := by decide +kernel
theorem dX4_perform_96 : decode cX4_perform 96 = .ok (.aload_n 2, 1) := by decide +kernel
theorem dX4_perform_97 : decode cX4_perform 97 = .ok (.getstatic 69, 3) := by decide +kernel
theorem dX4_perform_100 : decode cX4_perform 100 = .ok (.if_acmp .eq 10, 3) := by decide +kernel
theorem dX4_perform_103 : decode cX4_perform 103 = .ok (.aload_n 2, 1) := by decide +kernel
theorem dX4_perform_104 : decode cX4_perform 104 = .ok (.getstatic 72, 3) := by decide +kernel
theorem dX4_perform_107 : decode cX4_perform 107 = .ok (.if_acmp .ne 32, 3) := by decide +kernel
theorem dX4_perform_110 : decode cX4_perform 110 = .ok (.aload_n 1, 1) := by decide +kernel
theorem dX4_perform_111 : decode cX4_perform 111 = .ok (.invokevirtual 60, 3) := by decide +kernel
theorem dX4_perform_114 : decode cX4_perform 114 = .ok (.aload_n 0, 1) := by decide +kernel
theorem dX4_perform_115 : decode cX4_perform 115 = .ok (.aload_n 2, 1) := by decide +kernel
theorem dX4_perform_116 : decode cX4_perform 116 = .ok (.getstatic 72, 3) := by decide +kernel
theorem dX4_perform_119 : decode cX4_perform 119 = .ok (.if_acmp .ne 13, 3) := by decide +kernel
theorem dX4_perform_122 : decode cX4_perform 122 = .ok (.aload_n 0, 1) := by decide +kernel
theorem dX4_perform_123 : decode cX4_perform 123 = .ok (.getfield 20, 3) := by decide +kernel
theorem dX4_perform_126 : decode cX4_perform 126 = .ok (.getfield 75, 3) := by decide +kernel
theorem dX4_perform_129 : decode cX4_perform 129 = .ok (.goto 4, 3) := by decide +kernel
theorem dX4_perform_132 : decode cX4_perform 132 = .ok (.iconst 1, 1) := by decide +kernel
theorem dX4_perform_133 : decode cX4_perform 133 = .ok (.invokevirtual 78, 3) := by decide +kernel
theorem dX4_perform_136 : decode cX4_perform 136 = .ok (.goto 31, 3) := by decide +kernel
theorem dX4_perform_139 : decode cX4_perform 139 = .ok (.aload_n 1, 1) := by decide +kernel
theorem dX4_perform_140 : decode cX4_perform 140 = .ok (.invokevirtual 81, 3) := by decide +kernel
theorem dX4_perform_143 : decode cX4_perform 143 = .ok (.ifCond .ne 24, 3) := by decide +kernel
theorem dX4_perform_146 : decode cX4_perform 146 = .ok (.aload_n 1, 1) := by decide +kernel
theorem dX4_perform_147 : decode cX4_perform 147 = .ok (.aload_n 0, 1) := by decide +kernel
theorem dX4_perform_148 : decode cX4_perform 148 = .ok (.getfield 63, 3) := by decide +kernel
theorem dX4_perform_151 : decode cX4_perform 151 = .ok (.putfield 85, 3) := by decide +kernel
theorem dX4_perform_154 : decode cX4_perform 154 = .ok (.aload_n 1, 1) := by decide +kernel
theorem dX4_perform_155 : decode cX4_perform 155 = .ok (.aload_n 0, 1) := by decide +kernel
theorem dX4_perform_156 : decode cX4_perform 156 = .ok (.getfield 20, 3) := by decide +kernel
theorem dX4_perform_159 : decode cX4_perform 159 = .ok (.aload_n 0, 1) := by decide +kernel
theorem dX4_perform_160 : decode cX4_perform 160 = .ok (.invokevirtual 88, 3) := by decide +kernel
theorem dX4_perform_163 : decode cX4_perform 163 = .ok (.aload_n 0, 1) := by decide +kernel
theorem dX4_perform_164 : decode cX4_perform 164 = .ok (.invokevirtual 66, 3) := by decide +kernel
theorem dX4_perform_167 : decode cX4_perform 167 = .ok (.return_, 1) := by decide +kernel
theorem dX4_grabOrStandIn_0 : decode cX4_grabOrStandIn 0 = .ok (.aload_n 0, 1) := by decide +kernel
theorem dX4_grabOrStandIn_1 : decode cX4_grabOrStandIn 1 = .ok (.aload_n 1, 1) := by decide +kernel
theorem dX4_grabOrStandIn_2 : decode cX4_grabOrStandIn 2 = .ok (.invokevirtual 41, 3) := by decide +kernel
theorem dX4_grabOrStandIn_5 : decode cX4_grabOrStandIn 5 = .ok (.ifCond .eq 10, 3) := by decide +kernel
theorem dX4_grabOrStandIn_8 : decode cX4_grabOrStandIn 8 = .ok (.aload_n 1, 1) := by decide +kernel
theorem dX4_grabOrStandIn_9 : decode cX4_grabOrStandIn 9 = .ok (.invokevirtual 60, 3) := by decide +kernel
theorem dX4_grabOrStandIn_12 : decode cX4_grabOrStandIn 12 = .ok (.goto 12, 3) := by decide +kernel
theorem dX4_grabOrStandIn_15 : decode cX4_grabOrStandIn 15 = .ok (.aload_n 1, 1) := by decide +kernel
theorem dX4_grabOrStandIn_16 : decode cX4_grabOrStandIn 16 = .ok (.aload_n 0, 1) := by decide +kernel
theorem dX4_grabOrStandIn_17 : decode cX4_grabOrStandIn 17 = .ok (.getfield 92, 3) := by decide +kernel
theorem dX4_grabOrStandIn_20 : decode cX4_grabOrStandIn 20 = .ok (.aload_n 0, 1) := by decide +kernel
theorem dX4_grabOrStandIn_21 : decode cX4_grabOrStandIn 21 = .ok (.invokevirtual 88, 3) := by decide +kernel
theorem dX4_grabOrStandIn_24 : decode cX4_grabOrStandIn 24 = .ok (.return_, 1) := by decide +kernel
theorem dX4_isGrabbed_0 : decode cX4_isGrabbed 0 = .ok (.aload_n 0, 1) := by decide +kernel
theorem dX4_isGrabbed_1 : decode cX4_isGrabbed 1 = .ok (.getfield 9, 3) := by decide +kernel
theorem dX4_isGrabbed_4 : decode cX4_isGrabbed 4 = .ok (.iconst (-1), 1) := by decide +kernel
theorem dX4_isGrabbed_5 : decode cX4_isGrabbed 5 = .ok (.if_icmp .eq 16, 3) := by decide +kernel
theorem dX4_isGrabbed_8 : decode cX4_isGrabbed 8 = .ok (.aload_n 0, 1) := by decide +kernel
theorem dX4_isGrabbed_9 : decode cX4_isGrabbed 9 = .ok (.getfield 9, 3) := by decide +kernel
theorem dX4_isGrabbed_12 : decode cX4_isGrabbed 12 = .ok (.aload_n 1, 1) := by decide +kernel
theorem dX4_isGrabbed_13 : decode cX4_isGrabbed 13 = .ok (.getfield 51, 3) := by decide +kernel
theorem dX4_isGrabbed_16 : decode cX4_isGrabbed 16 = .ok (.if_icmp .eq 5, 3) := by decide +kernel
theorem dX4_isGrabbed_19 : decode cX4_isGrabbed 19 = .ok (.iconst 0, 1) := by decide +kernel
theorem dX4_isGrabbed_20 : decode cX4_isGrabbed 20 = .ok (.ireturn, 1) := by decide +kernel
theorem dX4_isGrabbed_21 : decode cX4_isGrabbed 21 = .ok (.aload_n 0, 1) := by decide +kernel
theorem dX4_isGrabbed_22 : decode cX4_isGrabbed 22 = .ok (.aload_n 1, 1) := by decide +kernel
theorem dX4_isGrabbed_23 : decode cX4_isGrabbed 23 = .ok (.getfield 51, 3) := by decide +kernel
theorem dX4_isGrabbed_26 : decode cX4_isGrabbed 26 = .ok (.putfield 9, 3) := by decide +kernel
theorem dX4_isGrabbed_29 : decode cX4_isGrabbed 29 = .ok (.aload_n 0, 1) := by decide +kernel
theorem dX4_isGrabbed_30 : decode cX4_isGrabbed 30 = .ok (.dup, 1) := by decide +kernel
theorem dX4_isGrabbed_31 : decode cX4_isGrabbed 31 = .ok (.getfield 63, 3) := by decide +kernel
theorem dX4_isGrabbed_34 : decode cX4_isGrabbed 34 = .ok (.iconst 1, 1) := by decide +kernel
theorem dX4_isGrabbed_35 : decode cX4_isGrabbed 35 = .ok (.iadd, 1) := by decide +kernel
theorem dX4_isGrabbed_36 : decode cX4_isGrabbed 36 = .ok (.putfield 63, 3) := by decide +kernel
theorem dX4_isGrabbed_39 : decode cX4_isGrabbed 39 = .ok (.iconst 1, 1) := by decide +kernel
theorem dX4_isGrabbed_40 : decode cX4_isGrabbed 40 = .ok (.ireturn, 1) := by decide +kernel
theorem dX4_free_0 : decode cX4_free 0 = .ok (.aload_n 0, 1) := by decide +kernel
theorem dX4_free_1 : decode cX4_free 1 = .ok (.iconst (-1), 1) := by decide +kernel
theorem dX4_free_2 : decode cX4_free 2 = .ok (.putfield 9, 3) := by decide +kernel
theorem dX4_free_5 : decode cX4_free 5 = .ok (.aload_n 0, 1) := by decide +kernel
theorem dX4_free_6 : decode cX4_free 6 = .ok (.iconst 0, 1) := by decide +kernel
theorem dX4_free_7 : decode cX4_free 7 = .ok (.putfield 63, 3) := by decide +kernel
theorem dX4_free_10 : decode cX4_free 10 = .ok (.aload_n 0, 1) := by decide +kernel
theorem dX4_free_11 : decode cX4_free 11 = .ok (.getfield 92, 3) := by decide +kernel
theorem dX4_free_14 : decode cX4_free 14 = .ok (.invokevirtual 95, 3) := by decide +kernel
theorem dX4_free_17 : decode cX4_free 17 = .ok (.astore_n 1, 1) := by decide +kernel
theorem dX4_free_18 : decode cX4_free 18 = .ok (.aload_n 1, 1) := by decide +kernel
theorem dX4_free_19 : decode cX4_free 19 = .ok (.ifnonnull 4, 3) := by decide +kernel
theorem dX4_free_22 : decode cX4_free 22 = .ok (.return_, 1) := by decide +kernel
theorem dX4_free_23 : decode cX4_free 23 = .ok (.aload_n 0, 1) := by decide +kernel
theorem dX4_free_24 : decode cX4_free 24 = .ok (.getfield 24, 3) := by decide +kernel
theorem dX4_free_27 : decode cX4_free 27 = .ok (.ifCond .eq 11, 3) := by decide +kernel
theorem dX4_free_30 : decode cX4_free 30 = .ok (.aload_n 0, 1) := by decide +kernel
theorem dX4_free_31 : decode cX4_free 31 = .ok (.aload_n 1, 1) := by decide +kernel
theorem dX4_free_32 : decode cX4_free 32 = .ok (.invokevirtual 99, 3) := by decide +kernel
theorem dX4_free_35 : decode cX4_free 35 = .ok (.goto 8, 3) := by decide +kernel
theorem dX4_free_38 : decode cX4_free 38 = .ok (.aload_n 1, 1) := by decide +kernel
theorem dX4_free_39 : decode cX4_free 39 = .ok (.iconst 1, 1) := by decide +kernel
theorem dX4_free_40 : decode cX4_free 40 = .ok (.putfield 102, 3) := by decide +kernel
theorem dX4_free_43 : decode cX4_free 43 = .ok (.return_, 1) := by decide +kernel
theorem dX4_have_0 : decode cX4_have 0 = .ok (.aload_n 0, 1) := by decide +kernel
theorem dX4_have_1 : decode cX4_have 1 = .ok (.aload_n 1, 1) := by decide +kernel
theorem dX4_have_2 : decode cX4_have 2 = .ok (.getfield 51, 3) := by decide +kernel
theorem dX4_have_5 : decode cX4_have 5 = .ok (.putfield 9, 3) := by decide +kernel
theorem dX4_have_8 : decode cX4_have 8 = .ok (.aload_n 0, 1) := by decide +kernel
theorem dX4_have_9 : decode cX4_have 9 = .ok (.iconst 1, 1) := by decide +kernel
theorem dX4_have_10 : decode cX4_have 10 = .ok (.putfield 63, 3) := by decide +kernel
theorem dX4_have_13 : decode cX4_have 13 = .ok (.aload_n 1, 1) := by decide +kernel
theorem dX4_have_14 : decode cX4_have 14 = .ok (.getfield 85, 3) := by decide +kernel
theorem dX4_have_17 : decode cX4_have 17 = .ok (.ifCond .le 24, 3) := by decide +kernel
theorem dX4_have_20 : decode cX4_have 20 = .ok (.aload_n 0, 1) := by decide +kernel
theorem dX4_have_21 : decode cX4_have 21 = .ok (.aload_n 1, 1) := by decide +kernel
theorem dX4_have_22 : decode cX4_have 22 = .ok (.getfield 85, 3) := by decide +kernel
theorem dX4_have_25 : decode cX4_have 25 = .ok (.putfield 63, 3) := by decide +kernel
theorem dX4_have_28 : decode cX4_have 28 = .ok (.aload_n 1, 1) := by decide +kernel
theorem dX4_have_29 : decode cX4_have 29 = .ok (.aload_n 1, 1) := by decide +kernel
theorem dX4_have_30 : decode cX4_have 30 = .ok (.getfield 105, 3) := by decide +kernel
theorem dX4_have_33 : decode cX4_have 33 = .ok (.putfield 108, 3) := by decide +kernel
theorem dX4_have_36 : decode cX4_have 36 = .ok (.aload_n 1, 1) := by decide +kernel
theorem dX4_have_37 : decode cX4_have 37 = .ok (.iconst 0, 1) := by decide +kernel
theorem dX4_have_38 : decode cX4_have 38 = .ok (.putfield 85, 3) := by decide +kernel
theorem dX4_have_41 : decode cX4_have 41 = .ok (.aload_n 1, 1) := by decide +kernel
theorem dX4_have_42 : decode cX4_have 42 = .ok (.invokevirtual 60, 3) := by decide +kernel
theorem dX4_have_45 : decode cX4_have 45 = .ok (.return_, 1) := by decide +kernel
theorem dX4_tryAgain_0 : decode cX4_tryAgain 0 = .ok (.aload_n 0, 1) := by decide +kernel
theorem dX4_tryAgain_1 : decode cX4_tryAgain 1 = .ok (.getfield 9, 3) := by decide +kernel
theorem dX4_tryAgain_4 : decode cX4_tryAgain 4 = .ok (.iconst (-1), 1) := by decide +kernel
theorem dX4_tryAgain_5 : decode cX4_tryAgain 5 = .ok (.if_icmp .ne 11, 3) := by decide +kernel
theorem dX4_tryAgain_8 : decode cX4_tryAgain 8 = .ok (.aload_n 0, 1) := by decide +kernel
theorem dX4_tryAgain_9 : decode cX4_tryAgain 9 = .ok (.aload_n 1, 1) := by decide +kernel
theorem dX4_tryAgain_10 : decode cX4_tryAgain 10 = .ok (.invokevirtual 99, 3) := by decide +kernel
theorem dX4_tryAgain_13 : decode cX4_tryAgain 13 = .ok (.goto 8, 3) := by decide +kernel
theorem dX4_tryAgain_16 : decode cX4_tryAgain 16 = .ok (.aload_n 1, 1) := by decide +kernel
theorem dX4_tryAgain_17 : decode cX4_tryAgain 17 = .ok (.iconst 2, 1) := by decide +kernel
theorem dX4_tryAgain_18 : decode cX4_tryAgain 18 = .ok (.putfield 102, 3) := by decide +kernel
theorem dX4_tryAgain_21 : decode cX4_tryAgain 21 = .ok (.return_, 1) := by decide +kernel
theorem dX4_callUp_0 : decode cX4_callUp 0 = .ok (.iconst 0, 1) := by decide +kernel
theorem dX4_callUp_1 : decode cX4_callUp 1 = .ok (.istore_n 2, 1) := by decide +kernel
theorem dX4_callUp_2 : decode cX4_callUp 2 = .ok (.iload_n 2, 1) := by decide +kernel
theorem dX4_callUp_3 : decode cX4_callUp 3 = .ok (.iload_n 1, 1) := by decide +kernel
theorem dX4_callUp_4 : decode cX4_callUp 4 = .ok (.if_icmp .ge 28, 3) := by decide +kernel
theorem dX4_callUp_7 : decode cX4_callUp 7 = .ok (.aload_n 0, 1) := by decide +kernel
theorem dX4_callUp_8 : decode cX4_callUp 8 = .ok (.getfield 20, 3) := by decide +kernel
theorem dX4_callUp_11 : decode cX4_callUp 11 = .ok (.invokevirtual 95, 3) := by decide +kernel
theorem dX4_callUp_14 : decode cX4_callUp 14 = .ok (.astore_n 3, 1) := by decide +kernel
theorem dX4_callUp_15 : decode cX4_callUp 15 = .ok (.aload_n 3, 1) := by decide +kernel
theorem dX4_callUp_16 : decode cX4_callUp 16 = .ok (.ifnonnull 4, 3) := by decide +kernel
theorem dX4_callUp_19 : decode cX4_callUp 19 = .ok (.return_, 1) := by decide +kernel
theorem dX4_callUp_20 : decode cX4_callUp 20 = .ok (.aload_n 0, 1) := by decide +kernel
theorem dX4_callUp_21 : decode cX4_callUp 21 = .ok (.aload_n 3, 1) := by decide +kernel
theorem dX4_callUp_22 : decode cX4_callUp 22 = .ok (.iconst 1, 1) := by decide +kernel
theorem dX4_callUp_23 : decode cX4_callUp 23 = .ok (.invokevirtual 111, 3) := by decide +kernel
theorem dX4_callUp_26 : decode cX4_callUp 26 = .ok (.iinc 2 1, 3) := by decide +kernel
theorem dX4_callUp_29 : decode cX4_callUp 29 = .ok (.goto (-27), 3) := by decide +kernel
theorem dX4_callUp_32 : decode cX4_callUp 32 = .ok (.return_, 1) := by decide +kernel
theorem dX4_comeToFirst_0 : decode cX4_comeToFirst 0 = .ok (.aload_n 0, 1) := by decide +kernel
theorem dX4_comeToFirst_1 : decode cX4_comeToFirst 1 = .ok (.getfield 20, 3) := by decide +kernel
theorem dX4_comeToFirst_4 : decode cX4_comeToFirst 4 = .ok (.aload_n 1, 1) := by decide +kernel
theorem dX4_comeToFirst_5 : decode cX4_comeToFirst 5 = .ok (.invokevirtual 115, 3) := by decide +kernel
theorem dX4_comeToFirst_8 : decode cX4_comeToFirst 8 = .ok (.aload_n 1, 1) := by decide +kernel
theorem dX4_comeToFirst_9 : decode cX4_comeToFirst 9 = .ok (.iload_n 2, 1) := by decide +kernel
theorem dX4_comeToFirst_10 : decode cX4_comeToFirst 10 = .ok (.putfield 105, 3) := by decide +kernel
theorem dX4_comeToFirst_13 : decode cX4_comeToFirst 13 = .ok (.aload_n 1, 1) := by decide +kernel
theorem dX4_comeToFirst_14 : decode cX4_comeToFirst 14 = .ok (.aload_n 0, 1) := by decide +kernel
theorem dX4_comeToFirst_15 : decode cX4_comeToFirst 15 = .ok (.getfield 92, 3) := by decide +kernel
theorem dX4_comeToFirst_18 : decode cX4_comeToFirst 18 = .ok (.aload_n 0, 1) := by decide +kernel
theorem dX4_comeToFirst_19 : decode cX4_comeToFirst 19 = .ok (.invokevirtual 88, 3) := by decide +kernel
theorem dX4_comeToFirst_22 : decode cX4_comeToFirst 22 = .ok (.return_, 1) := by decide +kernel
theorem dX4_interruptWait_0 : decode cX4_interruptWait 0 = .ok (.aload_n 1, 1) := by decide +kernel
theorem dX4_interruptWait_1 : decode cX4_interruptWait 1 = .ok (.getfield 118, 3) := by decide +kernel
theorem dX4_interruptWait_4 : decode cX4_interruptWait 4 = .ok (.aload_n 0, 1) := by decide +kernel
theorem dX4_interruptWait_5 : decode cX4_interruptWait 5 = .ok (.getfield 20, 3) := by decide +kernel
theorem dX4_interruptWait_8 : decode cX4_interruptWait 8 = .ok (.if_acmp .eq 10, 3) := by decide +kernel
theorem dX4_interruptWait_11 : decode cX4_interruptWait 11 = .ok (.aload_n 1, 1) := by decide +kernel
theorem dX4_interruptWait_12 : decode cX4_interruptWait 12 = .ok (.bipush (-2), 2) := by decide +kernel
theorem dX4_interruptWait_14 : decode cX4_interruptWait 14 = .ok (.putfield 105, 3) := by decide +kernel
theorem dX4_interruptWait_17 : decode cX4_interruptWait 17 = .ok (.return_, 1) := by decide +kernel
theorem dX4_interruptWait_18 : decode cX4_interruptWait 18 = .ok (.aload_n 0, 1) := by decide +kernel
theorem dX4_interruptWait_19 : decode cX4_interruptWait 19 = .ok (.aload_n 1, 1) := by decide +kernel
theorem dX4_interruptWait_20 : decode cX4_interruptWait 20 = .ok (.bipush (-2), 2) := by decide +kernel
theorem dX4_interruptWait_22 : decode cX4_interruptWait 22 = .ok (.invokevirtual 111, 3) := by decide +kernel
theorem dX4_interruptWait_25 : decode cX4_interruptWait 25 = .ok (.aload_n 0, 1) := by decide +kernel
theorem dX4_interruptWait_26 : decode cX4_interruptWait 26 = .ok (.getfield 9, 3) := by decide +kernel
theorem dX4_interruptWait_29 : decode cX4_interruptWait 29 = .ok (.iconst (-1), 1) := by decide +kernel
theorem dX4_interruptWait_30 : decode cX4_interruptWait 30 = .ok (.if_icmp .ne 18, 3) := by decide +kernel
theorem dX4_interruptWait_33 : decode cX4_interruptWait 33 = .ok (.aload_n 0, 1) := by decide +kernel
theorem dX4_interruptWait_34 : decode cX4_interruptWait 34 = .ok (.getfield 92, 3) := by decide +kernel
theorem dX4_interruptWait_37 : decode cX4_interruptWait 37 = .ok (.getfield 75, 3) := by decide +kernel
theorem dX4_interruptWait_40 : decode cX4_interruptWait 40 = .ok (.iconst 1, 1) := by decide +kernel
theorem dX4_interruptWait_41 : decode cX4_interruptWait 41 = .ok (.if_icmp .ne 7, 3) := by decide +kernel
theorem dX4_interruptWait_44 : decode cX4_interruptWait 44 = .ok (.aload_n 0, 1) := by decide +kernel
theorem dX4_interruptWait_45 : decode cX4_interruptWait 45 = .ok (.invokevirtual 66, 3) := by decide +kernel
theorem dX4_interruptWait_48 : decode cX4_interruptWait 48 = .ok (.return_, 1) := by decide +kernel
theorem dX4_hasStrands_0 : decode cX4_hasStrands 0 = .ok (.aload_n 0, 1) := by decide +kernel
theorem dX4_hasStrands_1 : decode cX4_hasStrands 1 = .ok (.getfield 92, 3) := by decide +kernel
theorem dX4_hasStrands_4 : decode cX4_hasStrands 4 = .ok (.getfield 75, 3) := by decide +kernel
theorem dX4_hasStrands_7 : decode cX4_hasStrands 7 = .ok (.ifCond .gt 13, 3) := by decide +kernel
theorem dX4_hasStrands_10 : decode cX4_hasStrands 10 = .ok (.aload_n 0, 1) := by decide +kernel
theorem dX4_hasStrands_11 : decode cX4_hasStrands 11 = .ok (.getfield 20, 3) := by decide +kernel
theorem dX4_hasStrands_14 : decode cX4_hasStrands 14 = .ok (.getfield 75, 3) := by decide +kernel
theorem dX4_hasStrands_17 : decode cX4_hasStrands 17 = .ok (.ifCond .le 7, 3) := by decide +kernel
theorem dX4_hasStrands_20 : decode cX4_hasStrands 20 = .ok (.iconst 1, 1) := by decide +kernel
theorem dX4_hasStrands_21 : decode cX4_hasStrands 21 = .ok (.goto 4, 3) := by decide +kernel
theorem dX4_hasStrands_24 : decode cX4_hasStrands 24 = .ok (.iconst 0, 1) := by decide +kernel
theorem dX4_hasStrands_25 : decode cX4_hasStrands 25 = .ok (.ireturn, 1) := by decide +kernel
theorem dX4_value_0 : decode cX4_value 0 = .ok (.aload_n 0, 1) := by decide +kernel
theorem dX4_value_1 : decode cX4_value 1 = .ok (.getfield 63, 3) := by decide +kernel
theorem dX4_value_4 : decode cX4_value 4 = .ok (.i2l, 1) := by decide +kernel
theorem dX4_value_5 : decode cX4_value 5 = .ok (.lreturn, 1) := by decide +kernel
theorem dX4_tells_0 : decode cX4_tells 0 = .ok (.iload_n 1, 1) := by decide +kernel
theorem dX4_tells_1 : decode cX4_tells 1 = .ok (.iconst 3, 1) := by decide +kernel
theorem dX4_tells_2 : decode cX4_tells 2 = .ok (.if_icmp .gt 7, 3) := by decide +kernel
theorem dX4_tells_5 : decode cX4_tells 5 = .ok (.iconst 1, 1) := by decide +kernel
theorem dX4_tells_6 : decode cX4_tells 6 = .ok (.goto 4, 3) := by decide +kernel
theorem dX4_tells_9 : decode cX4_tells 9 = .ok (.iconst 0, 1) := by decide +kernel
theorem dX4_tells_10 : decode cX4_tells 10 = .ok (.ireturn, 1) := by decide +kernel
theorem dX4_detail_0 : decode cX4_detail 0 = .ok (.iload_n 1, 1) := by decide +kernel
theorem dX4_detail_1 : decode cX4_detail 1 = .ok (.iconst 2, 1) := by decide +kernel
theorem dX4_detail_2 : decode cX4_detail 2 = .ok (.if_icmp .ne 11, 3) := by decide +kernel
theorem dX4_detail_5 : decode cX4_detail 5 = .ok (.aload_n 0, 1) := by decide +kernel
theorem dX4_detail_6 : decode cX4_detail 6 = .ok (.getfield 9, 3) := by decide +kernel
theorem dX4_detail_9 : decode cX4_detail 9 = .ok (.i2l, 1) := by decide +kernel
theorem dX4_detail_10 : decode cX4_detail 10 = .ok (.goto 11, 3) := by decide +kernel
theorem dX4_detail_13 : decode cX4_detail 13 = .ok (.aload_n 0, 1) := by decide +kernel
theorem dX4_detail_14 : decode cX4_detail 14 = .ok (.getfield 20, 3) := by decide +kernel
theorem dX4_detail_17 : decode cX4_detail 17 = .ok (.getfield 75, 3) := by decide +kernel
theorem dX4_detail_20 : decode cX4_detail 20 = .ok (.i2l, 1) := by decide +kernel
theorem dX4_detail_21 : decode cX4_detail 21 = .ok (.lreturn, 1) := by decide +kernel
theorem dX5_init_0 : decode cX5_init 0 = .ok (.aload_n 0, 1) := by decide +kernel
theorem dX5_init_1 : decode cX5_init 1 = .ok (.iload_n 1, 1) := by decide +kernel
theorem dX5_init_2 : decode cX5_init 2 = .ok (.iconst 4, 1) := by decide +kernel
theorem dX5_init_3 : decode cX5_init 3 = .ok (.invokespecial 3, 3) := by decide +kernel
theorem dX5_init_6 : decode cX5_init 6 = .ok (.aload_n 0, 1) := by decide +kernel
theorem dX5_init_7 : decode cX5_init 7 = .ok (.iload_n 2, 1) := by decide +kernel
theorem dX5_init_8 : decode cX5_init 8 = .ok (.ifCond .le 7, 3) := by decide +kernel
theorem dX5_init_11 : decode cX5_init 11 = .ok (.iload_n 2, 1) := by decide +kernel
theorem dX5_init_12 : decode cX5_init 12 = .ok (.goto 4, 3) := by decide +kernel
theorem dX5_init_15 : decode cX5_init 15 = .ok (.iconst 1, 1) := by decide +kernel
theorem dX5_init_16 : decode cX5_init 16 = .ok (.newarray .int, 2) := by decide +kernel
theorem dX5_init_18 : decode cX5_init 18 = .ok (.putfield 9, 3) := by decide +kernel
theorem dX5_init_21 : decode cX5_init 21 = .ok (.return_, 1) := by decide +kernel
theorem dX5_perform_0 : decode cX5_perform 0 = .ok (.getstatic 15, 3) := by decide +kernel
theorem dX5_perform_3 : decode cX5_perform 3 = .ok (.aload_n 2, 1) := by decide +kernel
theorem dX5_perform_4 : decode cX5_perform 4 = .ok (.invokevirtual 20, 3) := by decide +kernel
theorem dX5_perform_7 : decode cX5_perform 7 = .ok (.iaload, 1) := by decide +kernel
theorem dX5_perform_8 : decode cX5_perform 8 = .ok (.tableswitch 103 12 14 #[28, 54, 77], 28) := by decide +kernel
theorem dX5_perform_36 : decode cX5_perform 36 = .ok (.aload_n 0, 1) := by decide +kernel
theorem dX5_perform_37 : decode cX5_perform 37 = .ok (.aload_n 1, 1) := by decide +kernel
theorem dX5_perform_38 : decode cX5_perform 38 = .ok (.getfield 26, 3) := by decide +kernel
theorem dX5_perform_41 : decode cX5_perform 41 = .ok (.invokevirtual 32, 3) := by decide +kernel
theorem dX5_perform_44 : decode cX5_perform 44 = .ok (.ifCond .eq 10, 3) := by decide +kernel
theorem dX5_perform_47 : decode cX5_perform 47 = .ok (.aload_n 1, 1) := by decide +kernel
theorem dX5_perform_48 : decode cX5_perform 48 = .ok (.invokevirtual 36, 3) := by decide +kernel
theorem dX5_perform_51 : decode cX5_perform 51 = .ok (.goto 79, 3) := by decide +kernel
theorem dX5_perform_54 : decode cX5_perform 54 = .ok (.aload_n 0, 1) := by decide +kernel
theorem dX5_perform_55 : decode cX5_perform 55 = .ok (.aload_n 1, 1) := by decide +kernel
theorem dX5_perform_56 : decode cX5_perform 56 = .ok (.invokevirtual 40, 3) := by decide +kernel
theorem dX5_perform_59 : decode cX5_perform 59 = .ok (.goto 71, 3) := by decide +kernel
theorem dX5_perform_62 : decode cX5_perform 62 = .ok (.aload_n 1, 1) := by decide +kernel
theorem dX5_perform_63 : decode cX5_perform 63 = .ok (.aload_n 0, 1) := by decide +kernel
theorem dX5_perform_64 : decode cX5_perform 64 = .ok (.aload_n 1, 1) := by decide +kernel
theorem dX5_perform_65 : decode cX5_perform 65 = .ok (.getfield 26, 3) := by decide +kernel
theorem dX5_perform_68 : decode cX5_perform 68 = .ok (.invokevirtual 32, 3) := by decide +kernel
theorem dX5_perform_71 : decode cX5_perform 71 = .ok (.ifCond .eq 7, 3) := by decide +kernel
theorem dX5_perform_74 : decode cX5_perform 74 = .ok (.iconst 1, 1) := by decide +kernel
theorem dX5_perform_75 : decode cX5_perform 75 = .ok (.goto 4, 3) := by decide +kernel
theorem dX5_perform_78 : decode cX5_perform 78 = .ok (.iconst 0, 1) := by decide +kernel
theorem dX5_perform_79 : decode cX5_perform 79 = .ok (.invokevirtual 44, 3) := by decide +kernel
theorem dX5_perform_82 : decode cX5_perform 82 = .ok (.goto 48, 3) := by decide +kernel
theorem dX5_perform_85 : decode cX5_perform 85 = .ok (.aload_n 0, 1) := by decide +kernel
theorem dX5_perform_86 : decode cX5_perform 86 = .ok (.getfield 48, 3) := by decide +kernel
theorem dX5_perform_89 : decode cX5_perform 89 = .ok (.ifCond .le 14, 3) := by decide +kernel
theorem dX5_perform_92 : decode cX5_perform 92 = .ok (.aload_n 1, 1) := by decide +kernel
theorem dX5_perform_93 : decode cX5_perform 93 = .ok (.aload_n 0, 1) := by decide +kernel
theorem dX5_perform_94 : decode cX5_perform 94 = .ok (.invokevirtual 51, 3) := by decide +kernel
theorem dX5_perform_97 : decode cX5_perform 97 = .ok (.invokevirtual 44, 3) := by decide +kernel
theorem dX5_perform_100 : decode cX5_perform 100 = .ok (.goto 30, 3) := by decide +kernel
theorem dX5_perform_103 : decode cX5_perform 103 = .ok (.aload_n 0, 1) := by decide +kernel
theorem dX5_perform_104 : decode cX5_perform 104 = .ok (.aload_n 1, 1) := by decide +kernel
theorem dX5_perform_105 : decode cX5_perform 105 = .ok (.invokevirtual 40, 3) := by decide +kernel
theorem dX5_perform_108 : decode cX5_perform 108 = .ok (.goto 22, 3) := by decide +kernel
theorem dX5_perform_111 : decode cX5_perform 111 = .ok (.aload_n 1, 1) := by decide +kernel
theorem dX5_perform_112 : decode cX5_perform 112 = .ok (.aload_n 0, 1) := by decide +kernel
theorem dX5_perform_113 : decode cX5_perform 113 = .ok (.getfield 48, 3) := by decide +kernel
theorem dX5_perform_116 : decode cX5_perform 116 = .ok (.ifCond .le 10, 3) := by decide +kernel
theorem dX5_perform_119 : decode cX5_perform 119 = .ok (.aload_n 0, 1) := by decide +kernel
theorem dX5_perform_120 : decode cX5_perform 120 = .ok (.invokevirtual 51, 3) := by decide +kernel
theorem dX5_perform_123 : decode cX5_perform 123 = .ok (.goto 4, 3) := by decide +kernel
theorem dX5_perform_126 : decode cX5_perform 126 = .ok (.iconst (-1), 1) := by decide +kernel
theorem dX5_perform_127 : decode cX5_perform 127 = .ok (.invokevirtual 44, 3) := by decide +kernel
theorem dX5_perform_130 : decode cX5_perform 130 = .ok (.return_, 1) := by decide +kernel
theorem dX5_isAccepted_0 : decode cX5_isAccepted 0 = .ok (.aload_n 0, 1) := by decide +kernel
theorem dX5_isAccepted_1 : decode cX5_isAccepted 1 = .ok (.getfield 48, 3) := by decide +kernel
theorem dX5_isAccepted_4 : decode cX5_isAccepted 4 = .ok (.ifCond .ne 13, 3) := by decide +kernel
theorem dX5_isAccepted_7 : decode cX5_isAccepted 7 = .ok (.aload_n 0, 1) := by decide +kernel
theorem dX5_isAccepted_8 : decode cX5_isAccepted 8 = .ok (.getfield 54, 3) := by decide +kernel
theorem dX5_isAccepted_11 : decode cX5_isAccepted 11 = .ok (.invokevirtual 58, 3) := by decide +kernel
theorem dX5_isAccepted_14 : decode cX5_isAccepted 14 = .ok (.goto 4, 3) := by decide +kernel
theorem dX5_isAccepted_17 : decode cX5_isAccepted 17 = .ok (.aconst_null, 1) := by decide +kernel
theorem dX5_isAccepted_18 : decode cX5_isAccepted 18 = .ok (.astore_n 2, 1) := by decide +kernel
theorem dX5_isAccepted_19 : decode cX5_isAccepted 19 = .ok (.aload_n 2, 1) := by decide +kernel
theorem dX5_isAccepted_20 : decode cX5_isAccepted 20 = .ok (.ifnull 10, 3) := by decide +kernel
theorem dX5_isAccepted_23 : decode cX5_isAccepted 23 = .ok (.aload_n 2, 1) := by decide +kernel
theorem dX5_isAccepted_24 : decode cX5_isAccepted 24 = .ok (.iload_n 1, 1) := by decide +kernel
theorem dX5_isAccepted_25 : decode cX5_isAccepted 25 = .ok (.invokevirtual 44, 3) := by decide +kernel
theorem dX5_isAccepted_28 : decode cX5_isAccepted 28 = .ok (.iconst 1, 1) := by decide +kernel
theorem dX5_isAccepted_29 : decode cX5_isAccepted 29 = .ok (.ireturn, 1) := by decide +kernel
theorem dX5_isAccepted_30 : decode cX5_isAccepted 30 = .ok (.aload_n 0, 1) := by decide +kernel
theorem dX5_isAccepted_31 : decode cX5_isAccepted 31 = .ok (.getfield 48, 3) := by decide +kernel
theorem dX5_isAccepted_34 : decode cX5_isAccepted 34 = .ok (.aload_n 0, 1) := by decide +kernel
theorem dX5_isAccepted_35 : decode cX5_isAccepted 35 = .ok (.getfield 9, 3) := by decide +kernel
theorem dX5_isAccepted_38 : decode cX5_isAccepted 38 = .ok (.arraylength, 1) := by decide +kernel
theorem dX5_isAccepted_39 : decode cX5_isAccepted 39 = .ok (.if_icmp .ne 5, 3) := by decide +kernel
theorem dX5_isAccepted_42 : decode cX5_isAccepted 42 = .ok (.iconst 0, 1) := by decide +kernel
theorem dX5_isAccepted_43 : decode cX5_isAccepted 43 = .ok (.ireturn, 1) := by decide +kernel
theorem dX5_isAccepted_44 : decode cX5_isAccepted 44 = .ok (.aload_n 0, 1) := by decide +kernel
theorem dX5_isAccepted_45 : decode cX5_isAccepted 45 = .ok (.iload_n 1, 1) := by decide +kernel
theorem dX5_isAccepted_46 : decode cX5_isAccepted 46 = .ok (.invokevirtual 64, 3) := by decide +kernel
theorem dX5_isAccepted_49 : decode cX5_isAccepted 49 = .ok (.iconst 1, 1) := by decide +kernel
theorem dX5_isAccepted_50 : decode cX5_isAccepted 50 = .ok (.ireturn, 1) := by decide +kernel
theorem dX5_takenOut_0 : decode cX5_takenOut 0 = .ok (.aload_n 0, 1) := by decide +kernel
theorem dX5_takenOut_1 : decode cX5_takenOut 1 = .ok (.getfield 67, 3) := by decide +kernel
theorem dX5_takenOut_4 : decode cX5_takenOut 4 = .ok (.aload_n 0, 1) := by decide +kernel
theorem dX5_takenOut_5 : decode cX5_takenOut 5 = .ok (.getfield 9, 3) := by decide +kernel
theorem dX5_takenOut_8 : decode cX5_takenOut 8 = .ok (.arraylength, 1) := by decide +kernel
theorem dX5_takenOut_9 : decode cX5_takenOut 9 = .ok (.if_icmp .ge 15, 3) := by decide +kernel
theorem dX5_takenOut_12 : decode cX5_takenOut 12 = .ok (.aload_n 0, 1) := by decide +kernel
theorem dX5_takenOut_13 : decode cX5_takenOut 13 = .ok (.getfield 9, 3) := by decide +kernel
theorem dX5_takenOut_16 : decode cX5_takenOut 16 = .ok (.aload_n 0, 1) := by decide +kernel
theorem dX5_takenOut_17 : decode cX5_takenOut 17 = .ok (.getfield 67, 3) := by decide +kernel
theorem dX5_takenOut_20 : decode cX5_takenOut 20 = .ok (.iaload, 1) := by decide +kernel
theorem dX5_takenOut_21 : decode cX5_takenOut 21 = .ok (.goto 4, 3) := by decide +kernel
theorem dX5_takenOut_24 : decode cX5_takenOut 24 = .ok (.iconst 0, 1) := by decide +kernel
theorem dX5_takenOut_25 : decode cX5_takenOut 25 = .ok (.istore_n 1, 1) := by decide +kernel
theorem dX5_takenOut_26 : decode cX5_takenOut 26 = .ok (.aload_n 0, 1) := by decide +kernel
theorem dX5_takenOut_27 : decode cX5_takenOut 27 = .ok (.aload_n 0, 1) := by decide +kernel
theorem dX5_takenOut_28 : decode cX5_takenOut 28 = .ok (.getfield 67, 3) := by decide +kernel
theorem dX5_takenOut_31 : decode cX5_takenOut 31 = .ok (.iconst 1, 1) := by decide +kernel
theorem dX5_takenOut_32 : decode cX5_takenOut 32 = .ok (.iadd, 1) := by decide +kernel
theorem dX5_takenOut_33 : decode cX5_takenOut 33 = .ok (.aload_n 0, 1) := by decide +kernel
theorem dX5_takenOut_34 : decode cX5_takenOut 34 = .ok (.getfield 9, 3) := by decide +kernel
theorem dX5_takenOut_37 : decode cX5_takenOut 37 = .ok (.arraylength, 1) := by decide +kernel
theorem dX5_takenOut_38 : decode cX5_takenOut 38 = .ok (.if_icmp .ge 12, 3) := by decide +kernel
theorem dX5_takenOut_41 : decode cX5_takenOut 41 = .ok (.aload_n 0, 1) := by decide +kernel
theorem dX5_takenOut_42 : decode cX5_takenOut 42 = .ok (.getfield 67, 3) := by decide +kernel
theorem dX5_takenOut_45 : decode cX5_takenOut 45 = .ok (.iconst 1, 1) := by decide +kernel
theorem dX5_takenOut_46 : decode cX5_takenOut 46 = .ok (.iadd, 1) := by decide +kernel
theorem dX5_takenOut_47 : decode cX5_takenOut 47 = .ok (.goto 4, 3) := by decide +kernel
theorem dX5_takenOut_50 : decode cX5_takenOut 50 = .ok (.iconst 0, 1) := by decide +kernel
theorem dX5_takenOut_51 : decode cX5_takenOut 51 = .ok (.putfield 67, 3) := by decide +kernel
theorem dX5_takenOut_54 : decode cX5_takenOut 54 = .ok (.aload_n 0, 1) := by decide +kernel
theorem dX5_takenOut_55 : decode cX5_takenOut 55 = .ok (.dup, 1) := by decide +kernel
theorem dX5_takenOut_56 : decode cX5_takenOut 56 = .ok (.getfield 48, 3) := by decide +kernel
theorem dX5_takenOut_59 : decode cX5_takenOut 59 = .ok (.iconst 1, 1) := by decide +kernel
theorem dX5_takenOut_60 : decode cX5_takenOut 60 = .ok (.isub, 1) := by decide +kernel
theorem dX5_takenOut_61 : decode cX5_takenOut 61 = .ok (.putfield 48, 3) := by decide +kernel
theorem dX5_takenOut_64 : decode cX5_takenOut 64 = .ok (.aload_n 0, 1) := by decide +kernel
theorem dX5_takenOut_65 : decode cX5_takenOut 65 = .ok (.getfield 54, 3) := by decide +kernel
theorem dX5_takenOut_68 : decode cX5_takenOut 68 = .ok (.invokevirtual 58, 3) := by decide +kernel
theorem dX5_takenOut_71 : decode cX5_takenOut 71 = .ok (.astore_n 2, 1) := by decide +kernel
theorem dX5_takenOut_72 : decode cX5_takenOut 72 = .ok (.aload_n 2, 1) := by decide +kernel
theorem dX5_takenOut_73 : decode cX5_takenOut 73 = .ok (.ifnull 15, 3) := by decide +kernel
theorem dX5_takenOut_76 : decode cX5_takenOut 76 = .ok (.aload_n 0, 1) := by decide +kernel
theorem dX5_takenOut_77 : decode cX5_takenOut 77 = .ok (.aload_n 2, 1) := by decide +kernel
theorem dX5_takenOut_78 : decode cX5_takenOut 78 = .ok (.getfield 26, 3) := by decide +kernel
theorem dX5_takenOut_81 : decode cX5_takenOut 81 = .ok (.invokevirtual 64, 3) := by decide +kernel
theorem dX5_takenOut_84 : decode cX5_takenOut 84 = .ok (.aload_n 2, 1) := by decide +kernel
theorem dX5_takenOut_85 : decode cX5_takenOut 85 = .ok (.invokevirtual 36, 3) := by decide +kernel
theorem dX5_takenOut_88 : decode cX5_takenOut 88 = .ok (.iload_n 1, 1) := by decide +kernel
theorem dX5_takenOut_89 : decode cX5_takenOut 89 = .ok (.ireturn, 1) := by decide +kernel
theorem dX5_append_0 : decode cX5_append 0 = .ok (.aload_n 0, 1) := by decide +kernel
theorem dX5_append_1 : decode cX5_append 1 = .ok (.getfield 67, 3) := by decide +kernel
theorem dX5_append_4 : decode cX5_append 4 = .ok (.aload_n 0, 1) := by decide +kernel
theorem dX5_append_5 : decode cX5_append 5 = .ok (.getfield 48, 3) := by decide +kernel
theorem dX5_append_8 : decode cX5_append 8 = .ok (.iadd, 1) := by decide +kernel
theorem dX5_append_9 : decode cX5_append 9 = .ok (.istore_n 2, 1) := by decide +kernel
theorem dX5_append_10 : decode cX5_append 10 = .ok (.iload_n 2, 1) := by decide +kernel
theorem dX5_append_11 : decode cX5_append 11 = .ok (.aload_n 0, 1) := by decide +kernel
theorem dX5_append_12 : decode cX5_append 12 = .ok (.getfield 9, 3) := by decide +kernel
theorem dX5_append_15 : decode cX5_append 15 = .ok (.arraylength, 1) := by decide +kernel
theorem dX5_append_16 : decode cX5_append 16 = .ok (.if_icmp .lt 11, 3) := by decide +kernel
theorem dX5_append_19 : decode cX5_append 19 = .ok (.iload_n 2, 1) := by decide +kernel
theorem dX5_append_20 : decode cX5_append 20 = .ok (.aload_n 0, 1) := by decide +kernel
theorem dX5_append_21 : decode cX5_append 21 = .ok (.getfield 9, 3) := by decide +kernel
theorem dX5_append_24 : decode cX5_append 24 = .ok (.arraylength, 1) := by decide +kernel
theorem dX5_append_25 : decode cX5_append 25 = .ok (.isub, 1) := by decide +kernel
theorem dX5_append_26 : decode cX5_append 26 = .ok (.istore_n 2, 1) := by decide +kernel
theorem dX5_append_27 : decode cX5_append 27 = .ok (.iload_n 2, 1) := by decide +kernel
theorem dX5_append_28 : decode cX5_append 28 = .ok (.ifCond .lt 29, 3) := by decide +kernel
theorem dX5_append_31 : decode cX5_append 31 = .ok (.iload_n 2, 1) := by decide +kernel
theorem dX5_append_32 : decode cX5_append 32 = .ok (.aload_n 0, 1) := by decide +kernel
theorem dX5_append_33 : decode cX5_append 33 = .ok (.getfield 9, 3) := by decide +kernel
theorem dX5_append_36 : decode cX5_append 36 = .ok (.arraylength, 1) := by decide +kernel
theorem dX5_append_37 : decode cX5_append 37 = .ok (.if_icmp .ge 20, 3) := by decide +kernel
theorem dX5_append_40 : decode cX5_append 40 = .ok (.aload_n 0, 1) := by decide +kernel
theorem dX5_append_41 : decode cX5_append 41 = .ok (.getfield 9, 3) := by decide +kernel
theorem dX5_append_44 : decode cX5_append 44 = .ok (.iload_n 2, 1) := by decide +kernel
theorem dX5_append_45 : decode cX5_append 45 = .ok (.iload_n 1, 1) := by decide +kernel
theorem dX5_append_46 : decode cX5_append 46 = .ok (.iastore, 1) := by decide +kernel
theorem dX5_append_47 : decode cX5_append 47 = .ok (.aload_n 0, 1) := by decide +kernel
theorem dX5_append_48 : decode cX5_append 48 = .ok (.dup, 1) := by decide +kernel
theorem dX5_append_49 : decode cX5_append 49 = .ok (.getfield 48, 3) := by decide +kernel
theorem dX5_append_52 : decode cX5_append 52 = .ok (.iconst 1, 1) := by decide +kernel
theorem dX5_append_53 : decode cX5_append 53 = .ok (.iadd, 1) := by decide +kernel
theorem dX5_append_54 : decode cX5_append 54 = .ok (.putfield 48, 3) := by decide +kernel
theorem dX5_append_57 : decode cX5_append 57 = .ok (.return_, 1) := by decide +kernel
theorem dX5_value_0 : decode cX5_value 0 = .ok (.aload_n 0, 1) := by decide +kernel
theorem dX5_value_1 : decode cX5_value 1 = .ok (.getfield 48, 3) := by decide +kernel
theorem dX5_value_4 : decode cX5_value 4 = .ok (.i2l, 1) := by decide +kernel
theorem dX5_value_5 : decode cX5_value 5 = .ok (.lreturn, 1) := by decide +kernel
theorem dX5_tells_0 : decode cX5_tells 0 = .ok (.iload_n 1, 1) := by decide +kernel
theorem dX5_tells_1 : decode cX5_tells 1 = .ok (.iconst 1, 1) := by decide +kernel
theorem dX5_tells_2 : decode cX5_tells 2 = .ok (.if_icmp .le 8, 3) := by decide +kernel
theorem dX5_tells_5 : decode cX5_tells 5 = .ok (.iload_n 1, 1) := by decide +kernel
theorem dX5_tells_6 : decode cX5_tells 6 = .ok (.iconst 4, 1) := by decide +kernel
theorem dX5_tells_7 : decode cX5_tells 7 = .ok (.if_icmp .ne 7, 3) := by decide +kernel
theorem dX5_tells_10 : decode cX5_tells 10 = .ok (.iconst 1, 1) := by decide +kernel
theorem dX5_tells_11 : decode cX5_tells 11 = .ok (.goto 4, 3) := by decide +kernel
theorem dX5_tells_14 : decode cX5_tells 14 = .ok (.iconst 0, 1) := by decide +kernel
theorem dX5_tells_15 : decode cX5_tells 15 = .ok (.ireturn, 1) := by decide +kernel
theorem dX5_detail_0 : decode cX5_detail 0 = .ok (.aload_n 0, 1) := by decide +kernel
theorem dX5_detail_1 : decode cX5_detail 1 = .ok (.getfield 9, 3) := by decide +kernel
theorem dX5_detail_4 : decode cX5_detail 4 = .ok (.arraylength, 1) := by decide +kernel
theorem dX5_detail_5 : decode cX5_detail 5 = .ok (.i2l, 1) := by decide +kernel
theorem dX5_detail_6 : decode cX5_detail 6 = .ok (.lreturn, 1) := by decide +kernel
theorem dX6_init_0 : decode cX6_init 0 = .ok (.aload_n 0, 1) := by decide +kernel
theorem dX6_init_1 : decode cX6_init 1 = .ok (.invokespecial 3, 3) := by decide +kernel
theorem dX6_init_4 : decode cX6_init 4 = .ok (.aload_n 0, 1) := by decide +kernel
theorem dX6_init_5 : decode cX6_init 5 = .ok (.bipush 8, 2) := by decide +kernel
theorem dX6_init_7 : decode cX6_init 7 = .ok (.anewarray 9, 3) := by decide +kernel
theorem dX6_init_10 : decode cX6_init 10 = .ok (.putfield 11, 3) := by decide +kernel
theorem dX6_init_13 : decode cX6_init 13 = .ok (.return_, 1) := by decide +kernel
theorem dX6_first_0 : decode cX6_first 0 = .ok (.aload_n 0, 1) := by decide +kernel
theorem dX6_first_1 : decode cX6_first 1 = .ok (.getfield 17, 3) := by decide +kernel
theorem dX6_first_4 : decode cX6_first 4 = .ok (.ifCond .le 12, 3) := by decide +kernel
theorem dX6_first_7 : decode cX6_first 7 = .ok (.aload_n 0, 1) := by decide +kernel
theorem dX6_first_8 : decode cX6_first 8 = .ok (.getfield 11, 3) := by decide +kernel
theorem dX6_first_11 : decode cX6_first 11 = .ok (.iconst 0, 1) := by decide +kernel
theorem dX6_first_12 : decode cX6_first 12 = .ok (.aaload, 1) := by decide +kernel
theorem dX6_first_13 : decode cX6_first 13 = .ok (.goto 4, 3) := by decide +kernel
theorem dX6_first_16 : decode cX6_first 16 = .ok (.aconst_null, 1) := by decide +kernel
theorem dX6_first_17 : decode cX6_first 17 = .ok (.areturn, 1) := by decide +kernel
theorem dX6_add_0 : decode cX6_add 0 = .ok (.aload_n 0, 1) := by decide +kernel
theorem dX6_add_1 : decode cX6_add 1 = .ok (.getfield 17, 3) := by decide +kernel
theorem dX6_add_4 : decode cX6_add 4 = .ok (.aload_n 0, 1) := by decide +kernel
theorem dX6_add_5 : decode cX6_add 5 = .ok (.getfield 11, 3) := by decide +kernel
theorem dX6_add_8 : decode cX6_add 8 = .ok (.arraylength, 1) := by decide +kernel
theorem dX6_add_9 : decode cX6_add 9 = .ok (.if_icmp .ge 23, 3) := by decide +kernel
theorem dX6_add_12 : decode cX6_add 12 = .ok (.aload_n 0, 1) := by decide +kernel
theorem dX6_add_13 : decode cX6_add 13 = .ok (.getfield 11, 3) := by decide +kernel
theorem dX6_add_16 : decode cX6_add 16 = .ok (.aload_n 0, 1) := by decide +kernel
theorem dX6_add_17 : decode cX6_add 17 = .ok (.getfield 17, 3) := by decide +kernel
theorem dX6_add_20 : decode cX6_add 20 = .ok (.aload_n 1, 1) := by decide +kernel
theorem dX6_add_21 : decode cX6_add 21 = .ok (.aastore, 1) := by decide +kernel
theorem dX6_add_22 : decode cX6_add 22 = .ok (.aload_n 0, 1) := by decide +kernel
theorem dX6_add_23 : decode cX6_add 23 = .ok (.dup, 1) := by decide +kernel
theorem dX6_add_24 : decode cX6_add 24 = .ok (.getfield 17, 3) := by decide +kernel
theorem dX6_add_27 : decode cX6_add 27 = .ok (.iconst 1, 1) := by decide +kernel
theorem dX6_add_28 : decode cX6_add 28 = .ok (.iadd, 1) := by decide +kernel
theorem dX6_add_29 : decode cX6_add 29 = .ok (.putfield 17, 3) := by decide +kernel
theorem dX6_add_32 : decode cX6_add 32 = .ok (.return_, 1) := by decide +kernel
theorem dX6_remove_0 : decode cX6_remove 0 = .ok (.iconst 0, 1) := by decide +kernel
theorem dX6_remove_1 : decode cX6_remove 1 = .ok (.istore_n 2, 1) := by decide +kernel
theorem dX6_remove_2 : decode cX6_remove 2 = .ok (.iconst 0, 1) := by decide +kernel
theorem dX6_remove_3 : decode cX6_remove 3 = .ok (.istore_n 3, 1) := by decide +kernel
theorem dX6_remove_4 : decode cX6_remove 4 = .ok (.iload_n 3, 1) := by decide +kernel
theorem dX6_remove_5 : decode cX6_remove 5 = .ok (.aload_n 0, 1) := by decide +kernel
theorem dX6_remove_6 : decode cX6_remove 6 = .ok (.getfield 17, 3) := by decide +kernel
theorem dX6_remove_9 : decode cX6_remove 9 = .ok (.if_icmp .ge 43, 3) := by decide +kernel
theorem dX6_remove_12 : decode cX6_remove 12 = .ok (.iload_n 3, 1) := by decide +kernel
theorem dX6_remove_13 : decode cX6_remove 13 = .ok (.aload_n 0, 1) := by decide +kernel
theorem dX6_remove_14 : decode cX6_remove 14 = .ok (.getfield 11, 3) := by decide +kernel
theorem dX6_remove_17 : decode cX6_remove 17 = .ok (.arraylength, 1) := by decide +kernel
theorem dX6_remove_18 : decode cX6_remove 18 = .ok (.if_icmp .ge 34, 3) := by decide +kernel
theorem dX6_remove_21 : decode cX6_remove 21 = .ok (.aload_n 0, 1) := by decide +kernel
theorem dX6_remove_22 : decode cX6_remove 22 = .ok (.getfield 11, 3) := by decide +kernel
theorem dX6_remove_25 : decode cX6_remove 25 = .ok (.iload_n 3, 1) := by decide +kernel
theorem dX6_remove_26 : decode cX6_remove 26 = .ok (.aaload, 1) := by decide +kernel
theorem dX6_remove_27 : decode cX6_remove 27 = .ok (.aload_n 1, 1) := by decide +kernel
theorem dX6_remove_28 : decode cX6_remove 28 = .ok (.if_acmp .eq 18, 3) := by decide +kernel
theorem dX6_remove_31 : decode cX6_remove 31 = .ok (.aload_n 0, 1) := by decide +kernel
theorem dX6_remove_32 : decode cX6_remove 32 = .ok (.getfield 11, 3) := by decide +kernel
theorem dX6_remove_35 : decode cX6_remove 35 = .ok (.iload_n 2, 1) := by decide +kernel
theorem dX6_remove_36 : decode cX6_remove 36 = .ok (.aload_n 0, 1) := by decide +kernel
theorem dX6_remove_37 : decode cX6_remove 37 = .ok (.getfield 11, 3) := by decide +kernel

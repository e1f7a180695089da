theorem dX6_remove_40 : decode cX6_remove 40 = .ok (.iload_n 3, 1) := by decide +kernel
theorem dX6_remove_41 : decode cX6_remove 41 = .ok (.aaload, 1) := by decide +kernel
theorem dX6_remove_42 : decode cX6_remove 42 = .ok (.aastore, 1) := by decide +kernel
theorem dX6_remove_43 : decode cX6_remove 43 = .ok (.iinc 2 1, 3) := by decide +kernel
theorem dX6_remove_46 : decode cX6_remove 46 = .ok (.iinc 3 1, 3) := by decide +kernel
theorem dX6_remove_49 : decode cX6_remove 49 = .ok (.goto (-45), 3) := by decide +kernel
theorem dX6_remove_52 : decode cX6_remove 52 = .ok (.aload_n 0, 1) := by decide +kernel
theorem dX6_remove_53 : decode cX6_remove 53 = .ok (.iload_n 2, 1) := by decide +kernel
theorem dX6_remove_54 : decode cX6_remove 54 = .ok (.putfield 17, 3) := by decide +kernel
theorem dX6_remove_57 : decode cX6_remove 57 = .ok (.return_, 1) := by decide +kernel
theorem dX7_init_0 : decode cX7_init 0 = .ok (.aload_n 0, 1) := by decide +kernel
theorem dX7_init_1 : decode cX7_init 1 = .ok (.iload_n 1, 1) := by decide +kernel
theorem dX7_init_2 : decode cX7_init 2 = .ok (.iconst 1, 1) := by decide +kernel
theorem dX7_init_3 : decode cX7_init 3 = .ok (.invokespecial 3, 3) := by decide +kernel
theorem dX7_init_6 : decode cX7_init 6 = .ok (.aload_n 0, 1) := by decide +kernel
theorem dX7_init_7 : decode cX7_init 7 = .ok (.iload_n 2, 1) := by decide +kernel
theorem dX7_init_8 : decode cX7_init 8 = .ok (.putfield 9, 3) := by decide +kernel
theorem dX7_init_11 : decode cX7_init 11 = .ok (.return_, 1) := by decide +kernel
theorem dX7_perform_0 : decode cX7_perform 0 = .ok (.getstatic 15, 3) := by decide +kernel
theorem dX7_perform_3 : decode cX7_perform 3 = .ok (.aload_n 2, 1) := by decide +kernel
theorem dX7_perform_4 : decode cX7_perform 4 = .ok (.invokevirtual 21, 3) := by decide +kernel
theorem dX7_perform_7 : decode cX7_perform 7 = .ok (.iaload, 1) := by decide +kernel
theorem dX7_perform_8 : decode cX7_perform 8 = .ok (.lookupswitch 104 #[(8, 28), (9, 79)], 28) := by decide +kernel
theorem dX7_perform_36 : decode cX7_perform 36 = .ok (.aload_n 0, 1) := by decide +kernel
theorem dX7_perform_37 : decode cX7_perform 37 = .ok (.getfield 27, 3) := by decide +kernel
theorem dX7_perform_40 : decode cX7_perform 40 = .ok (.getfield 31, 3) := by decide +kernel
theorem dX7_perform_43 : decode cX7_perform 43 = .ok (.ifCond .ne 36, 3) := by decide +kernel
theorem dX7_perform_46 : decode cX7_perform 46 = .ok (.aload_n 0, 1) := by decide +kernel
theorem dX7_perform_47 : decode cX7_perform 47 = .ok (.getfield 9, 3) := by decide +kernel
theorem dX7_perform_50 : decode cX7_perform 50 = .ok (.aload_n 1, 1) := by decide +kernel
theorem dX7_perform_51 : decode cX7_perform 51 = .ok (.iconst 1, 1) := by decide +kernel
theorem dX7_perform_52 : decode cX7_perform 52 = .ok (.invokevirtual 36, 3) := by decide +kernel
theorem dX7_perform_55 : decode cX7_perform 55 = .ok (.if_icmp .lt 24, 3) := by decide +kernel
theorem dX7_perform_58 : decode cX7_perform 58 = .ok (.aload_n 0, 1) := by decide +kernel
theorem dX7_perform_59 : decode cX7_perform 59 = .ok (.dup, 1) := by decide +kernel
theorem dX7_perform_60 : decode cX7_perform 60 = .ok (.getfield 9, 3) := by decide +kernel
theorem dX7_perform_63 : decode cX7_perform 63 = .ok (.aload_n 1, 1) := by decide +kernel
theorem dX7_perform_64 : decode cX7_perform 64 = .ok (.iconst 1, 1) := by decide +kernel
theorem dX7_perform_65 : decode cX7_perform 65 = .ok (.invokevirtual 36, 3) := by decide +kernel
theorem dX7_perform_68 : decode cX7_perform 68 = .ok (.isub, 1) := by decide +kernel
theorem dX7_perform_69 : decode cX7_perform 69 = .ok (.putfield 9, 3) := by decide +kernel
theorem dX7_perform_72 : decode cX7_perform 72 = .ok (.aload_n 1, 1) := by decide +kernel
theorem dX7_perform_73 : decode cX7_perform 73 = .ok (.invokevirtual 42, 3) := by decide +kernel
theorem dX7_perform_76 : decode cX7_perform 76 = .ok (.goto 67, 3) := by decide +kernel
theorem dX7_perform_79 : decode cX7_perform 79 = .ok (.aload_n 0, 1) := by decide +kernel
theorem dX7_perform_80 : decode cX7_perform 80 = .ok (.aload_n 1, 1) := by decide +kernel
theorem dX7_perform_81 : decode cX7_perform 81 = .ok (.invokevirtual 46, 3) := by decide +kernel
theorem dX7_perform_84 : decode cX7_perform 84 = .ok (.goto 59, 3) := by decide +kernel
theorem dX7_perform_87 : decode cX7_perform 87 = .ok (.aload_n 0, 1) := by decide +kernel
theorem dX7_perform_88 : decode cX7_perform 88 = .ok (.dup, 1) := by decide +kernel
theorem dX7_perform_89 : decode cX7_perform 89 = .ok (.getfield 9, 3) := by decide +kernel
theorem dX7_perform_92 : decode cX7_perform 92 = .ok (.aload_n 1, 1) := by decide +kernel
theorem dX7_perform_93 : decode cX7_perform 93 = .ok (.iconst 1, 1) := by decide +kernel
theorem dX7_perform_94 : decode cX7_perform 94 = .ok (.invokevirtual 36, 3) := by decide +kernel
theorem dX7_perform_97 : decode cX7_perform 97 = .ok (.iadd, 1) := by decide +kernel
theorem dX7_perform_98 : decode cX7_perform 98 = .ok (.putfield 9, 3) := by decide +kernel
theorem dX7_perform_101 : decode cX7_perform 101 = .ok (.aload_n 1, 1) := by decide +kernel
theorem dX7_perform_102 : decode cX7_perform 102 = .ok (.invokevirtual 42, 3) := by decide +kernel
theorem dX7_perform_105 : decode cX7_perform 105 = .ok (.aload_n 0, 1) := by decide +kernel
theorem dX7_perform_106 : decode cX7_perform 106 = .ok (.invokevirtual 50, 3) := by decide +kernel
theorem dX7_perform_109 : decode cX7_perform 109 = .ok (.goto 34, 3) := by decide +kernel
theorem dX7_perform_112 : decode cX7_perform 112 = .ok (.aload_n 0, 1) := by decide +kernel
theorem dX7_perform_113 : decode cX7_perform 113 = .ok (.getfield 9, 3) := by decide +kernel
theorem dX7_perform_116 : decode cX7_perform 116 = .ok (.ifCond .le 10, 3) := by decide +kernel
theorem dX7_perform_119 : decode cX7_perform 119 = .ok (.aload_n 0, 1) := by decide +kernel
theorem dX7_perform_120 : decode cX7_perform 120 = .ok (.getfield 9, 3) := by decide +kernel
theorem dX7_perform_123 : decode cX7_perform 123 = .ok (.goto 4, 3) := by decide +kernel
theorem dX7_perform_126 : decode cX7_perform 126 = .ok (.iconst 0, 1) := by decide +kernel
theorem dX7_perform_127 : decode cX7_perform 127 = .ok (.istore_n 3, 1) := by decide +kernel
theorem dX7_perform_128 : decode cX7_perform 128 = .ok (.aload_n 0, 1) := by decide +kernel
theorem dX7_perform_129 : decode cX7_perform 129 = .ok (.dup, 1) := by decide +kernel
theorem dX7_perform_130 : decode cX7_perform 130 = .ok (.getfield 9, 3) := by decide +kernel
theorem dX7_perform_133 : decode cX7_perform 133 = .ok (.iload_n 3, 1) := by decide +kernel
theorem dX7_perform_134 : decode cX7_perform 134 = .ok (.isub, 1) := by decide +kernel
theorem dX7_perform_135 : decode cX7_perform 135 = .ok (.putfield 9, 3) := by decide +kernel
theorem dX7_perform_138 : decode cX7_perform 138 = .ok (.aload_n 1, 1) := by decide +kernel
theorem dX7_perform_139 : decode cX7_perform 139 = .ok (.iload_n 3, 1) := by decide +kernel
theorem dX7_perform_140 : decode cX7_perform 140 = .ok (.invokevirtual 53, 3) := by decide +kernel
theorem dX7_perform_143 : decode cX7_perform 143 = .ok (.return_, 1) := by decide +kernel
theorem dX7_handOut_0 : decode cX7_handOut 0 = .ok (.iconst 0, 1) := by decide +kernel
theorem dX7_handOut_1 : decode cX7_handOut 1 = .ok (.istore_n 1, 1) := by decide +kernel
theorem dX7_handOut_2 : decode cX7_handOut 2 = .ok (.iload_n 1, 1) := by decide +kernel
theorem dX7_handOut_3 : decode cX7_handOut 3 = .ok (.bipush 8, 2) := by decide +kernel
theorem dX7_handOut_5 : decode cX7_handOut 5 = .ok (.if_icmp .ge 52, 3) := by decide +kernel
theorem dX7_handOut_8 : decode cX7_handOut 8 = .ok (.aload_n 0, 1) := by decide +kernel
theorem dX7_handOut_9 : decode cX7_handOut 9 = .ok (.getfield 27, 3) := by decide +kernel
theorem dX7_handOut_12 : decode cX7_handOut 12 = .ok (.invokevirtual 57, 3) := by decide +kernel
theorem dX7_handOut_15 : decode cX7_handOut 15 = .ok (.astore_n 2, 1) := by decide +kernel
theorem dX7_handOut_16 : decode cX7_handOut 16 = .ok (.aload_n 2, 1) := by decide +kernel
theorem dX7_handOut_17 : decode cX7_handOut 17 = .ok (.ifnull 15, 3) := by decide +kernel
theorem dX7_handOut_20 : decode cX7_handOut 20 = .ok (.aload_n 0, 1) := by decide +kernel
theorem dX7_handOut_21 : decode cX7_handOut 21 = .ok (.getfield 9, 3) := by decide +kernel
theorem dX7_handOut_24 : decode cX7_handOut 24 = .ok (.aload_n 2, 1) := by decide +kernel
theorem dX7_handOut_25 : decode cX7_handOut 25 = .ok (.iconst 1, 1) := by decide +kernel
theorem dX7_handOut_26 : decode cX7_handOut 26 = .ok (.invokevirtual 36, 3) := by decide +kernel
theorem dX7_handOut_29 : decode cX7_handOut 29 = .ok (.if_icmp .ge 4, 3) := by decide +kernel
theorem dX7_handOut_32 : decode cX7_handOut 32 = .ok (.return_, 1) := by decide +kernel
theorem dX7_handOut_33 : decode cX7_handOut 33 = .ok (.aload_n 0, 1) := by decide +kernel
theorem dX7_handOut_34 : decode cX7_handOut 34 = .ok (.dup, 1) := by decide +kernel
theorem dX7_handOut_35 : decode cX7_handOut 35 = .ok (.getfield 9, 3) := by decide +kernel
theorem dX7_handOut_38 : decode cX7_handOut 38 = .ok (.aload_n 2, 1) := by decide +kernel
theorem dX7_handOut_39 : decode cX7_handOut 39 = .ok (.iconst 1, 1) := by decide +kernel
theorem dX7_handOut_40 : decode cX7_handOut 40 = .ok (.invokevirtual 36, 3) := by decide +kernel
theorem dX7_handOut_43 : decode cX7_handOut 43 = .ok (.isub, 1) := by decide +kernel
theorem dX7_handOut_44 : decode cX7_handOut 44 = .ok (.putfield 9, 3) := by decide +kernel
theorem dX7_handOut_47 : decode cX7_handOut 47 = .ok (.aload_n 2, 1) := by decide +kernel
theorem dX7_handOut_48 : decode cX7_handOut 48 = .ok (.invokevirtual 42, 3) := by decide +kernel
theorem dX7_handOut_51 : decode cX7_handOut 51 = .ok (.iinc 1 1, 3) := by decide +kernel
theorem dX7_handOut_54 : decode cX7_handOut 54 = .ok (.goto (-52), 3) := by decide +kernel
theorem dX7_handOut_57 : decode cX7_handOut 57 = .ok (.return_, 1) := by decide +kernel
theorem dX7_value_0 : decode cX7_value 0 = .ok (.aload_n 0, 1) := by decide +kernel
theorem dX7_value_1 : decode cX7_value 1 = .ok (.getfield 9, 3) := by decide +kernel
theorem dX7_value_4 : decode cX7_value 4 = .ok (.i2l, 1) := by decide +kernel
theorem dX7_value_5 : decode cX7_value 5 = .ok (.lreturn, 1) := by decide +kernel
theorem dX8_init_0 : decode cX8_init 0 = .ok (.aload_n 0, 1) := by decide +kernel
theorem dX8_init_1 : decode cX8_init 1 = .ok (.invokespecial 3, 3) := by decide +kernel
theorem dX8_init_4 : decode cX8_init 4 = .ok (.aload_n 0, 1) := by decide +kernel
theorem dX8_init_5 : decode cX8_init 5 = .ok (.sipush 240, 3) := by decide +kernel
theorem dX8_init_8 : decode cX8_init 8 = .ok (.newarray .int, 2) := by decide +kernel
theorem dX8_init_10 : decode cX8_init 10 = .ok (.putfield 9, 3) := by decide +kernel
theorem dX8_init_13 : decode cX8_init 13 = .ok (.aload_n 0, 1) := by decide +kernel
theorem dX8_init_14 : decode cX8_init 14 = .ok (.iload_n 1, 1) := by decide +kernel
theorem dX8_init_15 : decode cX8_init 15 = .ok (.putfield 15, 3) := by decide +kernel
theorem dX8_init_18 : decode cX8_init 18 = .ok (.return_, 1) := by decide +kernel
theorem dX8_isVacant_0 : decode cX8_isVacant 0 = .ok (.aload_n 0, 1) := by decide +kernel
theorem dX8_isVacant_1 : decode cX8_isVacant 1 = .ok (.getfield 19, 3) := by decide +kernel
theorem dX8_isVacant_4 : decode cX8_isVacant 4 = .ok (.ifCond .eq 19, 3) := by decide +kernel
theorem dX8_isVacant_7 : decode cX8_isVacant 7 = .ok (.aload_n 0, 1) := by decide +kernel
theorem dX8_isVacant_8 : decode cX8_isVacant 8 = .ok (.getfield 19, 3) := by decide +kernel
theorem dX8_isVacant_11 : decode cX8_isVacant 11 = .ok (.iconst 4, 1) := by decide +kernel
theorem dX8_isVacant_12 : decode cX8_isVacant 12 = .ok (.if_icmp .eq 11, 3) := by decide +kernel
theorem dX8_isVacant_15 : decode cX8_isVacant 15 = .ok (.aload_n 0, 1) := by decide +kernel
theorem dX8_isVacant_16 : decode cX8_isVacant 16 = .ok (.getfield 19, 3) := by decide +kernel
theorem dX8_isVacant_19 : decode cX8_isVacant 19 = .ok (.iconst 5, 1) := by decide +kernel
theorem dX8_isVacant_20 : decode cX8_isVacant 20 = .ok (.if_icmp .ne 7, 3) := by decide +kernel
theorem dX8_isVacant_23 : decode cX8_isVacant 23 = .ok (.iconst 1, 1) := by decide +kernel
theorem dX8_isVacant_24 : decode cX8_isVacant 24 = .ok (.goto 4, 3) := by decide +kernel
theorem dX8_isVacant_27 : decode cX8_isVacant 27 = .ok (.iconst 0, 1) := by decide +kernel
theorem dX8_isVacant_28 : decode cX8_isVacant 28 = .ok (.ireturn, 1) := by decide +kernel
theorem dX8_start_0 : decode cX8_start 0 = .ok (.iconst 0, 1) := by decide +kernel
theorem dX8_start_1 : decode cX8_start 1 = .ok (.istore_n 3, 1) := by decide +kernel
theorem dX8_start_2 : decode cX8_start 2 = .ok (.iload_n 3, 1) := by decide +kernel
theorem dX8_start_3 : decode cX8_start 3 = .ok (.aload_n 0, 1) := by decide +kernel
theorem dX8_start_4 : decode cX8_start 4 = .ok (.getfield 9, 3) := by decide +kernel
theorem dX8_start_7 : decode cX8_start 7 = .ok (.arraylength, 1) := by decide +kernel
theorem dX8_start_8 : decode cX8_start 8 = .ok (.if_icmp .ge 24, 3) := by decide +kernel
theorem dX8_start_11 : decode cX8_start 11 = .ok (.iload_n 3, 1) := by decide +kernel
theorem dX8_start_12 : decode cX8_start 12 = .ok (.aload_n 1, 1) := by decide +kernel
theorem dX8_start_13 : decode cX8_start 13 = .ok (.arraylength, 1) := by decide +kernel
theorem dX8_start_14 : decode cX8_start 14 = .ok (.if_icmp .ge 18, 3) := by decide +kernel
theorem dX8_start_17 : decode cX8_start 17 = .ok (.aload_n 0, 1) := by decide +kernel
theorem dX8_start_18 : decode cX8_start 18 = .ok (.getfield 9, 3) := by decide +kernel
theorem dX8_start_21 : decode cX8_start 21 = .ok (.iload_n 3, 1) := by decide +kernel
theorem dX8_start_22 : decode cX8_start 22 = .ok (.aload_n 1, 1) := by decide +kernel
theorem dX8_start_23 : decode cX8_start 23 = .ok (.iload_n 3, 1) := by decide +kernel
theorem dX8_start_24 : decode cX8_start 24 = .ok (.iaload, 1) := by decide +kernel
theorem dX8_start_25 : decode cX8_start 25 = .ok (.iastore, 1) := by decide +kernel
theorem dX8_start_26 : decode cX8_start 26 = .ok (.iinc 3 1, 3) := by decide +kernel
theorem dX8_start_29 : decode cX8_start 29 = .ok (.goto (-27), 3) := by decide +kernel
theorem dX8_start_32 : decode cX8_start 32 = .ok (.aload_n 0, 1) := by decide +kernel
theorem dX8_start_33 : decode cX8_start 33 = .ok (.iload_n 2, 1) := by decide +kernel
theorem dX8_start_34 : decode cX8_start 34 = .ok (.putfield 22, 3) := by decide +kernel
theorem dX8_start_37 : decode cX8_start 37 = .ok (.aload_n 0, 1) := by decide +kernel
theorem dX8_start_38 : decode cX8_start 38 = .ok (.iconst 1, 1) := by decide +kernel
theorem dX8_start_39 : decode cX8_start 39 = .ok (.putfield 19, 3) := by decide +kernel
theorem dX8_start_42 : decode cX8_start 42 = .ok (.aload_n 0, 1) := by decide +kernel
theorem dX8_start_43 : decode cX8_start 43 = .ok (.iconst 0, 1) := by decide +kernel
theorem dX8_start_44 : decode cX8_start 44 = .ok (.putfield 25, 3) := by decide +kernel
theorem dX8_start_47 : decode cX8_start 47 = .ok (.aload_n 0, 1) := by decide +kernel
theorem dX8_start_48 : decode cX8_start 48 = .ok (.iconst 0, 1) := by decide +kernel
theorem dX8_start_49 : decode cX8_start 49 = .ok (.putfield 28, 3) := by decide +kernel
theorem dX8_start_52 : decode cX8_start 52 = .ok (.aload_n 0, 1) := by decide +kernel
theorem dX8_start_53 : decode cX8_start 53 = .ok (.iconst 0, 1) := by decide +kernel
theorem dX8_start_54 : decode cX8_start 54 = .ok (.putfield 31, 3) := by decide +kernel
theorem dX8_start_57 : decode cX8_start 57 = .ok (.aload_n 0, 1) := by decide +kernel
theorem dX8_start_58 : decode cX8_start 58 = .ok (.iconst 0, 1) := by decide +kernel
theorem dX8_start_59 : decode cX8_start 59 = .ok (.putfield 34, 3) := by decide +kernel
theorem dX8_start_62 : decode cX8_start 62 = .ok (.return_, 1) := by decide +kernel
theorem dX8_word_0 : decode cX8_word 0 = .ok (.aload_n 0, 1) := by decide +kernel
theorem dX8_word_1 : decode cX8_word 1 = .ok (.iconst 0, 1) := by decide +kernel
theorem dX8_word_2 : decode cX8_word 2 = .ok (.invokevirtual 38, 3) := by decide +kernel
theorem dX8_word_5 : decode cX8_word 5 = .ok (.istore_n 1, 1) := by decide +kernel
theorem dX8_word_6 : decode cX8_word 6 = .ok (.iload_n 1, 1) := by decide +kernel
theorem dX8_word_7 : decode cX8_word 7 = .ok (.ifCond .lt 19, 3) := by decide +kernel
theorem dX8_word_10 : decode cX8_word 10 = .ok (.iload_n 1, 1) := by decide +kernel
theorem dX8_word_11 : decode cX8_word 11 = .ok (.getstatic 42, 3) := by decide +kernel
theorem dX8_word_14 : decode cX8_word 14 = .ok (.arraylength, 1) := by decide +kernel
theorem dX8_word_15 : decode cX8_word 15 = .ok (.if_icmp .ge 11, 3) := by decide +kernel
theorem dX8_word_18 : decode cX8_word 18 = .ok (.getstatic 42, 3) := by decide +kernel
theorem dX8_word_21 : decode cX8_word 21 = .ok (.iload_n 1, 1) := by decide +kernel
theorem dX8_word_22 : decode cX8_word 22 = .ok (.aaload, 1) := by decide +kernel
theorem dX8_word_23 : decode cX8_word 23 = .ok (.goto 6, 3) := by decide +kernel
theorem dX8_word_26 : decode cX8_word 26 = .ok (.getstatic 46, 3) := by decide +kernel
theorem dX8_word_29 : decode cX8_word 29 = .ok (.areturn, 1) := by decide +kernel
theorem dX8_operand_0 : decode cX8_operand 0 = .ok (.aload_n 0, 1) := by decide +kernel
theorem dX8_operand_1 : decode cX8_operand 1 = .ok (.iconst 1, 1) := by decide +kernel
theorem dX8_operand_2 : decode cX8_operand 2 = .ok (.iload_n 1, 1) := by decide +kernel
theorem dX8_operand_3 : decode cX8_operand 3 = .ok (.iadd, 1) := by decide +kernel
theorem dX8_operand_4 : decode cX8_operand 4 = .ok (.invokevirtual 38, 3) := by decide +kernel
theorem dX8_operand_7 : decode cX8_operand 7 = .ok (.ireturn, 1) := by decide +kernel
theorem dX8_codeAt_0 : decode cX8_codeAt 0 = .ok (.aload_n 0, 1) := by decide +kernel
theorem dX8_codeAt_1 : decode cX8_codeAt 1 = .ok (.getfield 28, 3) := by decide +kernel
theorem dX8_codeAt_4 : decode cX8_codeAt 4 = .ok (.iconst 4, 1) := by decide +kernel
theorem dX8_codeAt_5 : decode cX8_codeAt 5 = .ok (.imul, 1) := by decide +kernel
theorem dX8_codeAt_6 : decode cX8_codeAt 6 = .ok (.iload_n 1, 1) := by decide +kernel
theorem dX8_codeAt_7 : decode cX8_codeAt 7 = .ok (.iadd, 1) := by decide +kernel
theorem dX8_codeAt_8 : decode cX8_codeAt 8 = .ok (.istore_n 2, 1) := by decide +kernel
theorem dX8_codeAt_9 : decode cX8_codeAt 9 = .ok (.iload_n 2, 1) := by decide +kernel
theorem dX8_codeAt_10 : decode cX8_codeAt 10 = .ok (.ifCond .lt 21, 3) := by decide +kernel
theorem dX8_codeAt_13 : decode cX8_codeAt 13 = .ok (.iload_n 2, 1) := by decide +kernel
theorem dX8_codeAt_14 : decode cX8_codeAt 14 = .ok (.aload_n 0, 1) := by decide +kernel
theorem dX8_codeAt_15 : decode cX8_codeAt 15 = .ok (.getfield 9, 3) := by decide +kernel
theorem dX8_codeAt_18 : decode cX8_codeAt 18 = .ok (.arraylength, 1) := by decide +kernel
theorem dX8_codeAt_19 : decode cX8_codeAt 19 = .ok (.if_icmp .ge 12, 3) := by decide +kernel
theorem dX8_codeAt_22 : decode cX8_codeAt 22 = .ok (.aload_n 0, 1) := by decide +kernel
theorem dX8_codeAt_23 : decode cX8_codeAt 23 = .ok (.getfield 9, 3) := by decide +kernel
theorem dX8_codeAt_26 : decode cX8_codeAt 26 = .ok (.iload_n 2, 1) := by decide +kernel
theorem dX8_codeAt_27 : decode cX8_codeAt 27 = .ok (.iaload, 1) := by decide +kernel
theorem dX8_codeAt_28 : decode cX8_codeAt 28 = .ok (.goto 4, 3) := by decide +kernel
theorem dX8_codeAt_31 : decode cX8_codeAt 31 = .ok (.iconst 0, 1) := by decide +kernel
theorem dX8_codeAt_32 : decode cX8_codeAt 32 = .ok (.ireturn, 1) := by decide +kernel
theorem dX8_goTo_0 : decode cX8_goTo 0 = .ok (.aload_n 0, 1) := by decide +kernel
theorem dX8_goTo_1 : decode cX8_goTo 1 = .ok (.iload_n 1, 1) := by decide +kernel
theorem dX8_goTo_2 : decode cX8_goTo 2 = .ok (.putfield 28, 3) := by decide +kernel
theorem dX8_goTo_5 : decode cX8_goTo 5 = .ok (.aload_n 0, 1) := by decide +kernel
theorem dX8_goTo_6 : decode cX8_goTo 6 = .ok (.iload_n 1, 1) := by decide +kernel
theorem dX8_goTo_7 : decode cX8_goTo 7 = .ok (.aload_n 0, 1) := by decide +kernel
theorem dX8_goTo_8 : decode cX8_goTo 8 = .ok (.getfield 22, 3) := by decide +kernel
theorem dX8_goTo_11 : decode cX8_goTo 11 = .ok (.if_icmp .ge 7, 3) := by decide +kernel
theorem dX8_goTo_14 : decode cX8_goTo 14 = .ok (.iconst 1, 1) := by decide +kernel
theorem dX8_goTo_15 : decode cX8_goTo 15 = .ok (.goto 4, 3) := by decide +kernel
theorem dX8_goTo_18 : decode cX8_goTo 18 = .ok (.iconst 4, 1) := by decide +kernel
theorem dX8_goTo_19 : decode cX8_goTo 19 = .ok (.putfield 19, 3) := by decide +kernel
theorem dX8_goTo_22 : decode cX8_goTo 22 = .ok (.return_, 1) := by decide +kernel
theorem dX8_goOn_0 : decode cX8_goOn 0 = .ok (.aload_n 0, 1) := by decide +kernel
theorem dX8_goOn_1 : decode cX8_goOn 1 = .ok (.getfield 52, 3) := by decide +kernel
theorem dX8_goOn_4 : decode cX8_goOn 4 = .ok (.ifnull 11, 3) := by decide +kernel
theorem dX8_goOn_7 : decode cX8_goOn 7 = .ok (.aload_n 0, 1) := by decide +kernel
theorem dX8_goOn_8 : decode cX8_goOn 8 = .ok (.getfield 52, 3) := by decide +kernel
theorem dX8_goOn_11 : decode cX8_goOn 11 = .ok (.aload_n 0, 1) := by decide +kernel
theorem dX8_goOn_12 : decode cX8_goOn 12 = .ok (.invokevirtual 56, 3) := by decide +kernel
theorem dX8_goOn_15 : decode cX8_goOn 15 = .ok (.aload_n 0, 1) := by decide +kernel
theorem dX8_goOn_16 : decode cX8_goOn 16 = .ok (.aconst_null, 1) := by decide +kernel
theorem dX8_goOn_17 : decode cX8_goOn 17 = .ok (.putfield 52, 3) := by decide +kernel
theorem dX8_goOn_20 : decode cX8_goOn 20 = .ok (.aload_n 0, 1) := by decide +kernel
theorem dX8_goOn_21 : decode cX8_goOn 21 = .ok (.aconst_null, 1) := by decide +kernel
theorem dX8_goOn_22 : decode cX8_goOn 22 = .ok (.putfield 62, 3) := by decide +kernel
theorem dX8_goOn_25 : decode cX8_goOn 25 = .ok (.aload_n 0, 1) := by decide +kernel
theorem dX8_goOn_26 : decode cX8_goOn 26 = .ok (.aload_n 0, 1) := by decide +kernel
theorem dX8_goOn_27 : decode cX8_goOn 27 = .ok (.getfield 28, 3) := by decide +kernel
theorem dX8_goOn_30 : decode cX8_goOn 30 = .ok (.iconst 1, 1) := by decide +kernel
theorem dX8_goOn_31 : decode cX8_goOn 31 = .ok (.iadd, 1) := by decide +kernel
theorem dX8_goOn_32 : decode cX8_goOn 32 = .ok (.invokevirtual 66, 3) := by decide +kernel
theorem dX8_goOn_35 : decode cX8_goOn 35 = .ok (.return_, 1) := by decide +kernel
theorem dX8_goOnWith_0 : decode cX8_goOnWith 0 = .ok (.aload_n 0, 1) := by decide +kernel
theorem dX8_goOnWith_1 : decode cX8_goOnWith 1 = .ok (.iload_n 1, 1) := by decide +kernel
theorem dX8_goOnWith_2 : decode cX8_goOnWith 2 = .ok (.putfield 25, 3) := by decide +kernel
theorem dX8_goOnWith_5 : decode cX8_goOnWith 5 = .ok (.aload_n 0, 1) := by decide +kernel
theorem dX8_goOnWith_6 : decode cX8_goOnWith 6 = .ok (.invokevirtual 70, 3) := by decide +kernel
theorem dX8_goOnWith_9 : decode cX8_goOnWith 9 = .ok (.return_, 1) := by decide +kernel
theorem dX8_fail_0 : decode cX8_fail 0 = .ok (.aload_n 0, 1) := by decide +kernel
theorem dX8_fail_1 : decode cX8_fail 1 = .ok (.iconst 5, 1) := by decide +kernel
theorem dX8_fail_2 : decode cX8_fail 2 = .ok (.putfield 19, 3) := by decide +kernel
theorem dX8_fail_5 : decode cX8_fail 5 = .ok (.aload_n 0, 1) := by decide +kernel
theorem dX8_fail_6 : decode cX8_fail 6 = .ok (.iload_n 1, 1) := by decide +kernel
theorem dX8_fail_7 : decode cX8_fail 7 = .ok (.putfield 31, 3) := by decide +kernel
theorem dX8_fail_10 : decode cX8_fail 10 = .ok (.return_, 1) := by decide +kernel
theorem dX8_standIn_0 : decode cX8_standIn 0 = .ok (.aload_n 1, 1) := by decide +kernel
theorem dX8_standIn_1 : decode cX8_standIn 1 = .ok (.aload_n 0, 1) := by decide +kernel
theorem dX8_standIn_2 : decode cX8_standIn 2 = .ok (.invokevirtual 73, 3) := by decide +kernel
theorem dX8_standIn_5 : decode cX8_standIn 5 = .ok (.aload_n 0, 1) := by decide +kernel
theorem dX8_standIn_6 : decode cX8_standIn 6 = .ok (.aload_n 1, 1) := by decide +kernel
theorem dX8_standIn_7 : decode cX8_standIn 7 = .ok (.putfield 52, 3) := by decide +kernel
theorem dX8_standIn_10 : decode cX8_standIn 10 = .ok (.aload_n 0, 1) := by decide +kernel
theorem dX8_standIn_11 : decode cX8_standIn 11 = .ok (.aload_n 2, 1) := by decide +kernel
theorem dX8_standIn_12 : decode cX8_standIn 12 = .ok (.putfield 62, 3) := by decide +kernel
theorem dX8_standIn_15 : decode cX8_standIn 15 = .ok (.aload_n 0, 1) := by decide +kernel
theorem dX8_standIn_16 : decode cX8_standIn 16 = .ok (.iconst 2, 1) := by decide +kernel
theorem dX8_standIn_17 : decode cX8_standIn 17 = .ok (.putfield 19, 3) := by decide +kernel
theorem dX8_standIn_20 : decode cX8_standIn 20 = .ok (.return_, 1) := by decide +kernel
theorem dX8_refusesToWait_0 : decode cX8_refusesToWait 0 = .ok (.aload_n 0, 1) := by decide +kernel
theorem dX8_refusesToWait_1 : decode cX8_refusesToWait 1 = .ok (.getfield 34, 3) := by decide +kernel
theorem dX8_refusesToWait_4 : decode cX8_refusesToWait 4 = .ok (.ifCond .ne 5, 3) := by decide +kernel
theorem dX8_refusesToWait_7 : decode cX8_refusesToWait 7 = .ok (.iconst 0, 1) := by decide +kernel
theorem dX8_refusesToWait_8 : decode cX8_refusesToWait 8 = .ok (.ireturn, 1) := by decide +kernel
theorem dX8_refusesToWait_9 : decode cX8_refusesToWait 9 = .ok (.aload_n 0, 1) := by decide +kernel
theorem dX8_refusesToWait_10 : decode cX8_refusesToWait 10 = .ok (.iconst 0, 1) := by decide +kernel
theorem dX8_refusesToWait_11 : decode cX8_refusesToWait 11 = .ok (.putfield 34, 3) := by decide +kernel
theorem dX8_refusesToWait_14 : decode cX8_refusesToWait 14 = .ok (.aload_n 0, 1) := by decide +kernel
theorem dX8_refusesToWait_15 : decode cX8_refusesToWait 15 = .ok (.bipush (-2), 2) := by decide +kernel
theorem dX8_refusesToWait_17 : decode cX8_refusesToWait 17 = .ok (.putfield 25, 3) := by decide +kernel
theorem dX8_refusesToWait_20 : decode cX8_refusesToWait 20 = .ok (.aload_n 0, 1) := by decide +kernel
theorem dX8_refusesToWait_21 : decode cX8_refusesToWait 21 = .ok (.invokevirtual 70, 3) := by decide +kernel
theorem dX8_refusesToWait_24 : decode cX8_refusesToWait 24 = .ok (.iconst 1, 1) := by decide +kernel
theorem dX8_refusesToWait_25 : decode cX8_refusesToWait 25 = .ok (.ireturn, 1) := by decide +kernel
theorem dX9_init_0 : decode cX9_init 0 = .ok (.aload_n 0, 1) := by decide +kernel
theorem dX9_init_1 : decode cX9_init 1 = .ok (.invokespecial 3, 3) := by decide +kernel
theorem dX9_init_4 : decode cX9_init 4 = .ok (.aload_n 0, 1) := by decide +kernel
theorem dX9_init_5 : decode cX9_init 5 = .ok (.new 9, 3) := by decide +kernel
theorem dX9_init_8 : decode cX9_init 8 = .ok (.dup, 1) := by decide +kernel
theorem dX9_init_9 : decode cX9_init 9 = .ok (.invokespecial 11, 3) := by decide +kernel
theorem dX9_init_12 : decode cX9_init 12 = .ok (.putfield 12, 3) := by decide +kernel
theorem dX9_init_15 : decode cX9_init 15 = .ok (.aload_n 0, 1) := by decide +kernel
theorem dX9_init_16 : decode cX9_init 16 = .ok (.iload_n 1, 1) := by decide +kernel
theorem dX9_init_17 : decode cX9_init 17 = .ok (.putfield 18, 3) := by decide +kernel
theorem dX9_init_20 : decode cX9_init 20 = .ok (.aload_n 0, 1) := by decide +kernel
theorem dX9_init_21 : decode cX9_init 21 = .ok (.iload_n 2, 1) := by decide +kernel
theorem dX9_init_22 : decode cX9_init 22 = .ok (.putfield 22, 3) := by decide +kernel
theorem dX9_init_25 : decode cX9_init 25 = .ok (.return_, 1) := by decide +kernel
theorem dX9_hasStrands_0 : decode cX9_hasStrands 0 = .ok (.aload_n 0, 1) := by decide +kernel
theorem dX9_hasStrands_1 : decode cX9_hasStrands 1 = .ok (.getfield 12, 3) := by decide +kernel
theorem dX9_hasStrands_4 : decode cX9_hasStrands 4 = .ok (.getfield 25, 3) := by decide +kernel
theorem dX9_hasStrands_7 : decode cX9_hasStrands 7 = .ok (.ifCond .le 7, 3) := by decide +kernel
theorem dX9_hasStrands_10 : decode cX9_hasStrands 10 = .ok (.iconst 1, 1) := by decide +kernel
theorem dX9_hasStrands_11 : decode cX9_hasStrands 11 = .ok (.goto 4, 3) := by decide +kernel
theorem dX9_hasStrands_14 : decode cX9_hasStrands 14 = .ok (.iconst 0, 1) := by decide +kernel
theorem dX9_hasStrands_15 : decode cX9_hasStrands 15 = .ok (.ireturn, 1) := by decide +kernel
theorem dX9_tells_0 : decode cX9_tells 0 = .ok (.iload_n 1, 1) := by decide +kernel
theorem dX9_tells_1 : decode cX9_tells 1 = .ok (.iconst 1, 1) := by decide +kernel
theorem dX9_tells_2 : decode cX9_tells 2 = .ok (.if_icmp .gt 7, 3) := by decide +kernel
theorem dX9_tells_5 : decode cX9_tells 5 = .ok (.iconst 1, 1) := by decide +kernel
theorem dX9_tells_6 : decode cX9_tells 6 = .ok (.goto 4, 3) := by decide +kernel
theorem dX9_tells_9 : decode cX9_tells 9 = .ok (.iconst 0, 1) := by decide +kernel
theorem dX9_tells_10 : decode cX9_tells 10 = .ok (.ireturn, 1) := by decide +kernel
theorem dX9_detail_0 : decode cX9_detail 0 = .ok (.ldc2_w 28, 3) := by decide +kernel
theorem dX9_detail_3 : decode cX9_detail 3 = .ok (.lreturn, 1) := by decide +kernel
theorem dX9_holdUp_0 : decode cX9_holdUp 0 = .ok (.aload_n 1, 1) := by decide +kernel
theorem dX9_holdUp_1 : decode cX9_holdUp 1 = .ok (.invokevirtual 30, 3) := by decide +kernel
theorem dX9_holdUp_4 : decode cX9_holdUp 4 = .ok (.ifCond .ne 12, 3) := by decide +kernel
theorem dX9_holdUp_7 : decode cX9_holdUp 7 = .ok (.aload_n 1, 1) := by decide +kernel
theorem dX9_holdUp_8 : decode cX9_holdUp 8 = .ok (.aload_n 0, 1) := by decide +kernel
theorem dX9_holdUp_9 : decode cX9_holdUp 9 = .ok (.getfield 12, 3) := by decide +kernel
theorem dX9_holdUp_12 : decode cX9_holdUp 12 = .ok (.aload_n 0, 1) := by decide +kernel
theorem dX9_holdUp_13 : decode cX9_holdUp 13 = .ok (.invokevirtual 36, 3) := by decide +kernel
theorem dX9_holdUp_16 : decode cX9_holdUp 16 = .ok (.return_, 1) := by decide +kernel
theorem dX9_allGoOn_0 : decode cX9_allGoOn 0 = .ok (.iconst 0, 1) := by decide +kernel
theorem dX9_allGoOn_1 : decode cX9_allGoOn 1 = .ok (.istore_n 1, 1) := by decide +kernel
theorem dX9_allGoOn_2 : decode cX9_allGoOn 2 = .ok (.iload_n 1, 1) := by decide +kernel
theorem dX9_allGoOn_3 : decode cX9_allGoOn 3 = .ok (.bipush 8, 2) := by decide +kernel
theorem dX9_allGoOn_5 : decode cX9_allGoOn 5 = .ok (.if_icmp .ge 26, 3) := by decide +kernel
theorem dX9_allGoOn_8 : decode cX9_allGoOn 8 = .ok (.aload_n 0, 1) := by decide +kernel
theorem dX9_allGoOn_9 : decode cX9_allGoOn 9 = .ok (.getfield 12, 3) := by decide +kernel
theorem dX9_allGoOn_12 : decode cX9_allGoOn 12 = .ok (.invokevirtual 40, 3) := by decide +kernel
theorem dX9_allGoOn_15 : decode cX9_allGoOn 15 = .ok (.astore_n 2, 1) := by decide +kernel
theorem dX9_allGoOn_16 : decode cX9_allGoOn 16 = .ok (.aload_n 2, 1) := by decide +kernel
theorem dX9_allGoOn_17 : decode cX9_allGoOn 17 = .ok (.ifnonnull 4, 3) := by decide +kernel
theorem dX9_allGoOn_20 : decode cX9_allGoOn 20 = .ok (.return_, 1) := by decide +kernel
theorem dX9_allGoOn_21 : decode cX9_allGoOn 21 = .ok (.aload_n 2, 1) := by decide +kernel
theorem dX9_allGoOn_22 : decode cX9_allGoOn 22 = .ok (.invokevirtual 44, 3) := by decide +kernel
theorem dX9_allGoOn_25 : decode cX9_allGoOn 25 = .ok (.iinc 1 1, 3) := by decide +kernel
theorem dX9_allGoOn_28 : decode cX9_allGoOn 28 = .ok (.goto (-26), 3) := by decide +kernel
theorem dX9_allGoOn_31 : decode cX9_allGoOn 31 = .ok (.return_, 1) := by decide +kernel
theorem dX10_init_0 : decode cX10_init 0 = .ok (.aload_n 0, 1) := by decide +kernel
theorem dX10_init_1 : decode cX10_init 1 = .ok (.invokespecial 3, 3) := by decide +kernel
theorem dX10_init_4 : decode cX10_init 4 = .ok (.aload_n 0, 1) := by decide +kernel
theorem dX10_init_5 : decode cX10_init 5 = .ok (.sipush 240, 3) := by decide +kernel
theorem dX10_init_8 : decode cX10_init 8 = .ok (.newarray .int, 2) := by decide +kernel
theorem dX10_init_10 : decode cX10_init 10 = .ok (.putfield 9, 3) := by decide +kernel
theorem dX10_init_13 : decode cX10_init 13 = .ok (.aload_n 0, 1) := by decide +kernel
theorem dX10_init_14 : decode cX10_init 14 = .ok (.iconst (-1), 1) := by decide +kernel
theorem dX10_init_15 : decode cX10_init 15 = .ok (.putfield 15, 3) := by decide +kernel
theorem dX10_init_18 : decode cX10_init 18 = .ok (.aload_n 0, 1) := by decide +kernel
theorem dX10_init_19 : decode cX10_init 19 = .ok (.sipush 1600, 3) := by decide +kernel
theorem dX10_init_22 : decode cX10_init 22 = .ok (.newarray .byte, 2) := by decide +kernel
theorem dX10_init_24 : decode cX10_init 24 = .ok (.putfield 19, 3) := by decide +kernel
theorem dX10_init_27 : decode cX10_init 27 = .ok (.return_, 1) := by decide +kernel
theorem dX10_append_0 : decode cX10_append 0 = .ok (.bipush 24, 2) := by decide +kernel
theorem dX10_append_2 : decode cX10_append 2 = .ok (.istore_n 2, 1) := by decide +kernel
theorem dX10_append_3 : decode cX10_append 3 = .ok (.iload_n 2, 1) := by decide +kernel
theorem dX10_append_4 : decode cX10_append 4 = .ok (.ifCond .lt 44, 3) := by decide +kernel
theorem dX10_append_7 : decode cX10_append 7 = .ok (.aload_n 0, 1) := by decide +kernel
theorem dX10_append_8 : decode cX10_append 8 = .ok (.getfield 23, 3) := by decide +kernel
theorem dX10_append_11 : decode cX10_append 11 = .ok (.aload_n 0, 1) := by decide +kernel
theorem dX10_append_12 : decode cX10_append 12 = .ok (.getfield 19, 3) := by decide +kernel
theorem dX10_append_15 : decode cX10_append 15 = .ok (.arraylength, 1) := by decide +kernel
theorem dX10_append_16 : decode cX10_append 16 = .ok (.if_icmp .ge 32, 3) := by decide +kernel
theorem dX10_append_19 : decode cX10_append 19 = .ok (.aload_n 0, 1) := by decide +kernel
theorem dX10_append_20 : decode cX10_append 20 = .ok (.getfield 19, 3) := by decide +kernel
theorem dX10_append_23 : decode cX10_append 23 = .ok (.aload_n 0, 1) := by decide +kernel
theorem dX10_append_24 : decode cX10_append 24 = .ok (.getfield 23, 3) := by decide +kernel
theorem dX10_append_27 : decode cX10_append 27 = .ok (.iload_n 1, 1) := by decide +kernel
theorem dX10_append_28 : decode cX10_append 28 = .ok (.iload_n 2, 1) := by decide +kernel
theorem dX10_append_29 : decode cX10_append 29 = .ok (.iushr, 1) := by decide +kernel
theorem dX10_append_30 : decode cX10_append 30 = .ok (.i2b, 1) := by decide +kernel
theorem dX10_append_31 : decode cX10_append 31 = .ok (.bastore, 1) := by decide +kernel
theorem dX10_append_32 : decode cX10_append 32 = .ok (.aload_n 0, 1) := by decide +kernel
theorem dX10_append_33 : decode cX10_append 33 = .ok (.dup, 1) := by decide +kernel
theorem dX10_append_34 : decode cX10_append 34 = .ok (.getfield 23, 3) := by decide +kernel
theorem dX10_append_37 : decode cX10_append 37 = .ok (.iconst 1, 1) := by decide +kernel
theorem dX10_append_38 : decode cX10_append 38 = .ok (.iadd, 1) := by decide +kernel
theorem dX10_append_39 : decode cX10_append 39 = .ok (.putfield 23, 3) := by decide +kernel
theorem dX10_append_42 : decode cX10_append 42 = .ok (.iinc 2 (-8), 3) := by decide +kernel
theorem dX10_append_45 : decode cX10_append 45 = .ok (.goto (-42), 3) := by decide +kernel
theorem dX10_append_48 : decode cX10_append 48 = .ok (.return_, 1) := by decide +kernel
theorem dX10_read_0 : decode cX10_read 0 = .ok (.aload_n 0, 1) := by decide +kernel
theorem dX10_read_1 : decode cX10_read 1 = .ok (.iconst 0, 1) := by decide +kernel
theorem dX10_read_2 : decode cX10_read 2 = .ok (.putfield 26, 3) := by decide +kernel
theorem dX10_read_5 : decode cX10_read 5 = .ok (.aload_n 0, 1) := by decide +kernel
theorem dX10_read_6 : decode cX10_read 6 = .ok (.iconst (-1), 1) := by decide +kernel
theorem dX10_read_7 : decode cX10_read 7 = .ok (.putfield 15, 3) := by decide +kernel
theorem dX10_read_10 : decode cX10_read 10 = .ok (.iconst 0, 1) := by decide +kernel
theorem dX10_read_11 : decode cX10_read 11 = .ok (.istore_n 1, 1) := by decide +kernel
theorem dX10_read_12 : decode cX10_read 12 = .ok (.iload_n 1, 1) := by decide +kernel
theorem dX10_read_13 : decode cX10_read 13 = .ok (.bipush 60, 2) := by decide +kernel
theorem dX10_read_15 : decode cX10_read 15 = .ok (.if_icmp .ge 77, 3) := by decide +kernel
theorem dX10_read_18 : decode cX10_read 18 = .ok (.aload_n 0, 1) := by decide +kernel
theorem dX10_read_19 : decode cX10_read 19 = .ok (.invokevirtual 29, 3) := by decide +kernel
theorem dX10_read_22 : decode cX10_read 22 = .ok (.aload_n 0, 1) := by decide +kernel
theorem dX10_read_23 : decode cX10_read 23 = .ok (.iload_n 1, 1) := by decide +kernel
theorem dX10_read_24 : decode cX10_read 24 = .ok (.iconst 4, 1) := by decide +kernel
theorem dX10_read_25 : decode cX10_read 25 = .ok (.imul, 1) := by decide +kernel
theorem dX10_read_26 : decode cX10_read 26 = .ok (.invokevirtual 32, 3) := by decide +kernel
theorem dX10_read_29 : decode cX10_read 29 = .ok (.ifCond .ne 5, 3) := by decide +kernel
theorem dX10_read_32 : decode cX10_read 32 = .ok (.iconst 0, 1) := by decide +kernel
theorem dX10_read_33 : decode cX10_read 33 = .ok (.ireturn, 1) := by decide +kernel
theorem dX10_read_34 : decode cX10_read 34 = .ok (.aload_n 0, 1) := by decide +kernel
theorem dX10_read_35 : decode cX10_read 35 = .ok (.invokevirtual 29, 3) := by decide +kernel
theorem dX10_read_38 : decode cX10_read 38 = .ok (.aload_n 0, 1) := by decide +kernel
theorem dX10_read_39 : decode cX10_read 39 = .ok (.getfield 26, 3) := by decide +kernel
theorem dX10_read_42 : decode cX10_read 42 = .ok (.aload_n 0, 1) := by decide +kernel
theorem dX10_read_43 : decode cX10_read 43 = .ok (.getfield 23, 3) := by decide +kernel
theorem dX10_read_46 : decode cX10_read 46 = .ok (.if_icmp .lt 12, 3) := by decide +kernel
theorem dX10_read_49 : decode cX10_read 49 = .ok (.aload_n 0, 1) := by decide +kernel
theorem dX10_read_50 : decode cX10_read 50 = .ok (.iload_n 1, 1) := by decide +kernel
theorem dX10_read_51 : decode cX10_read 51 = .ok (.iconst 1, 1) := by decide +kernel
theorem dX10_read_52 : decode cX10_read 52 = .ok (.iadd, 1) := by decide +kernel
theorem dX10_read_53 : decode cX10_read 53 = .ok (.putfield 36, 3) := by decide +kernel
theorem dX10_read_56 : decode cX10_read 56 = .ok (.iconst 1, 1) := by decide +kernel
theorem dX10_read_57 : decode cX10_read 57 = .ok (.ireturn, 1) := by decide +kernel
theorem dX10_read_58 : decode cX10_read 58 = .ok (.aload_n 0, 1) := by decide +kernel
theorem dX10_read_59 : decode cX10_read 59 = .ok (.invokevirtual 39, 3) := by decide +kernel
theorem dX10_read_62 : decode cX10_read 62 = .ok (.bipush 59, 2) := by decide +kernel
theorem dX10_read_64 : decode cX10_read 64 = .ok (.if_icmp .eq 12, 3) := by decide +kernel
theorem dX10_read_67 : decode cX10_read 67 = .ok (.aload_n 0, 1) := by decide +kernel
theorem dX10_read_68 : decode cX10_read 68 = .ok (.aload_n 0, 1) := by decide +kernel
theorem dX10_read_69 : decode cX10_read 69 = .ok (.getfield 26, 3) := by decide +kernel
theorem dX10_read_72 : decode cX10_read 72 = .ok (.invokevirtual 43, 3) := by decide +kernel
theorem dX10_read_75 : decode cX10_read 75 = .ok (.ireturn, 1) := by decide +kernel
theorem dX10_read_76 : decode cX10_read 76 = .ok (.aload_n 0, 1) := by decide +kernel
theorem dX10_read_77 : decode cX10_read 77 = .ok (.dup, 1) := by decide +kernel
theorem dX10_read_78 : decode cX10_read 78 = .ok (.getfield 26, 3) := by decide +kernel
theorem dX10_read_81 : decode cX10_read 81 = .ok (.iconst 1, 1) := by decide +kernel
theorem dX10_read_82 : decode cX10_read 82 = .ok (.iadd, 1) := by decide +kernel
theorem dX10_read_83 : decode cX10_read 83 = .ok (.putfield 26, 3) := by decide +kernel
theorem dX10_read_86 : decode cX10_read 86 = .ok (.iinc 1 1, 3) := by decide +kernel
theorem dX10_read_89 : decode cX10_read 89 = .ok (.goto (-77), 3) := by decide +kernel
theorem dX10_read_92 : decode cX10_read 92 = .ok (.aload_n 0, 1) := by decide +kernel
theorem dX10_read_93 : decode cX10_read 93 = .ok (.invokevirtual 29, 3) := by decide +kernel
theorem dX10_read_96 : decode cX10_read 96 = .ok (.aload_n 0, 1) := by decide +kernel
theorem dX10_read_97 : decode cX10_read 97 = .ok (.aload_n 0, 1) := by decide +kernel
theorem dX10_read_98 : decode cX10_read 98 = .ok (.getfield 26, 3) := by decide +kernel
theorem dX10_read_101 : decode cX10_read 101 = .ok (.invokevirtual 43, 3) := by decide +kernel
theorem dX10_read_104 : decode cX10_read 104 = .ok (.ireturn, 1) := by decide +kernel
theorem dX10_readInstruction_0 : decode cX10_readInstruction 0 = .ok (.aload_n 0, 1) := by decide +kernel
theorem dX10_readInstruction_1 : decode cX10_readInstruction 1 = .ok (.getfield 26, 3) := by decide +kernel
theorem dX10_readInstruction_4 : decode cX10_readInstruction 4 = .ok (.istore_n 2, 1) := by decide +kernel
theorem dX10_readInstruction_5 : decode cX10_readInstruction 5 = .ok (.aload_n 0, 1) := by decide +kernel
theorem dX10_readInstruction_6 : decode cX10_readInstruction 6 = .ok (.getfield 26, 3) := by decide +kernel
theorem dX10_readInstruction_9 : decode cX10_readInstruction 9 = .ok (.aload_n 0, 1) := by decide +kernel
theorem dX10_readInstruction_10 : decode cX10_readInstruction 10 = .ok (.getfield 23, 3) := by decide +kernel
theorem dX10_readInstruction_13 : decode cX10_readInstruction 13 = .ok (.if_icmp .ge 34, 3) := by decide +kernel
theorem dX10_readInstruction_16 : decode cX10_readInstruction 16 = .ok (.aload_n 0, 1) := by decide +kernel
theorem dX10_readInstruction_17 : decode cX10_readInstruction 17 = .ok (.invokevirtual 39, 3) := by decide +kernel
theorem dX10_readInstruction_20 : decode cX10_readInstruction 20 = .ok (.bipush 97, 2) := by decide +kernel
theorem dX10_readInstruction_22 : decode cX10_readInstruction 22 = .ok (.if_icmp .lt 25, 3) := by decide +kernel
theorem dX10_readInstruction_25 : decode cX10_readInstruction 25 = .ok (.aload_n 0, 1) := by decide +kernel
theorem dX10_readInstruction_26 : decode cX10_readInstruction 26 = .ok (.invokevirtual 39, 3) := by decide +kernel
theorem dX10_readInstruction_29 : decode cX10_readInstruction 29 = .ok (.bipush 122, 2) := by decide +kernel
theorem dX10_readInstruction_31 : decode cX10_readInstruction 31 = .ok (.if_icmp .gt 16, 3) := by decide +kernel
theorem dX10_readInstruction_34 : decode cX10_readInstruction 34 = .ok (.aload_n 0, 1) := by decide +kernel
theorem dX10_readInstruction_35 : decode cX10_readInstruction 35 = .ok (.dup, 1) := by decide +kernel
theorem dX10_readInstruction_36 : decode cX10_readInstruction 36 = .ok (.getfield 26, 3) := by decide +kernel
theorem dX10_readInstruction_39 : decode cX10_readInstruction 39 = .ok (.iconst 1, 1) := by decide +kernel
theorem dX10_readInstruction_40 : decode cX10_readInstruction 40 = .ok (.iadd, 1) := by decide +kernel
theorem dX10_readInstruction_41 : decode cX10_readInstruction 41 = .ok (.putfield 26, 3) := by decide +kernel
theorem dX10_readInstruction_44 : decode cX10_readInstruction 44 = .ok (.goto (-39), 3) := by decide +kernel
theorem dX10_readInstruction_47 : decode cX10_readInstruction 47 = .ok (.aload_n 0, 1) := by decide +kernel
theorem dX10_readInstruction_48 : decode cX10_readInstruction 48 = .ok (.iload_n 2, 1) := by decide +kernel
theorem dX10_readInstruction_49 : decode cX10_readInstruction 49 = .ok (.invokevirtual 46, 3) := by decide +kernel
theorem dX10_readInstruction_52 : decode cX10_readInstruction 52 = .ok (.istore_n 3, 1) := by decide +kernel
theorem dX10_readInstruction_53 : decode cX10_readInstruction 53 = .ok (.iload_n 3, 1) := by decide +kernel
theorem dX10_readInstruction_54 : decode cX10_readInstruction 54 = .ok (.ifCond .lt 11, 3) := by decide +kernel
theorem dX10_readInstruction_57 : decode cX10_readInstruction 57 = .ok (.iload_n 3, 1) := by decide +kernel
theorem dX10_readInstruction_58 : decode cX10_readInstruction 58 = .ok (.getstatic 50, 3) := by decide +kernel
theorem dX10_readInstruction_61 : decode cX10_readInstruction 61 = .ok (.arraylength, 1) := by decide +kernel
theorem dX10_readInstruction_62 : decode cX10_readInstruction 62 = .ok (.if_icmp .lt 9, 3) := by decide +kernel
theorem dX10_readInstruction_65 : decode cX10_readInstruction 65 = .ok (.aload_n 0, 1) := by decide +kernel
theorem dX10_readInstruction_66 : decode cX10_readInstruction 66 = .ok (.iload_n 2, 1) := by decide +kernel
theorem dX10_readInstruction_67 : decode cX10_readInstruction 67 = .ok (.invokevirtual 43, 3) := by decide +kernel
theorem dX10_readInstruction_70 : decode cX10_readInstruction 70 = .ok (.ireturn, 1) := by decide +kernel
theorem dX10_readInstruction_71 : decode cX10_readInstruction 71 = .ok (.aload_n 0, 1) := by decide +kernel
theorem dX10_readInstruction_72 : decode cX10_readInstruction 72 = .ok (.iload_n 1, 1) := by decide +kernel
theorem dX10_readInstruction_73 : decode cX10_readInstruction 73 = .ok (.iload_n 3, 1) := by decide +kernel
theorem dX10_readInstruction_74 : decode cX10_readInstruction 74 = .ok (.invokevirtual 54, 3) := by decide +kernel
theorem dX10_readInstruction_77 : decode cX10_readInstruction 77 = .ok (.getstatic 50, 3) := by decide +kernel
theorem dX10_readInstruction_80 : decode cX10_readInstruction 80 = .ok (.iload_n 3, 1) := by decide +kernel
theorem dX10_readInstruction_81 : decode cX10_readInstruction 81 = .ok (.aaload, 1) := by decide +kernel
theorem dX10_readInstruction_82 : decode cX10_readInstruction 82 = .ok (.getfield 58, 3) := by decide +kernel
theorem dX10_readInstruction_85 : decode cX10_readInstruction 85 = .ok (.astore 4, 2) := by decide +kernel
theorem dX10_readInstruction_87 : decode cX10_readInstruction 87 = .ok (.iconst 0, 1) := by decide +kernel
theorem dX10_readInstruction_88 : decode cX10_readInstruction 88 = .ok (.istore 5, 2) := by decide +kernel
theorem dX10_readInstruction_90 : decode cX10_readInstruction 90 = .ok (.iload 5, 2) := by decide +kernel
theorem dX10_readInstruction_92 : decode cX10_readInstruction 92 = .ok (.aload 4, 2) := by decide +kernel
theorem dX10_readInstruction_94 : decode cX10_readInstruction 94 = .ok (.invokevirtual 64, 3) := by decide +kernel
theorem dX10_readInstruction_97 : decode cX10_readInstruction 97 = .ok (.if_icmp .ge 53, 3) := by decide +kernel
theorem dX10_readInstruction_100 : decode cX10_readInstruction 100 = .ok (.aload_n 0, 1) := by decide +kernel
theorem dX10_readInstruction_101 : decode cX10_readInstruction 101 = .ok (.invokevirtual 39, 3) := by decide +kernel
theorem dX10_readInstruction_104 : decode cX10_readInstruction 104 = .ok (.bipush 32, 2) := by decide +kernel
theorem dX10_readInstruction_106 : decode cX10_readInstruction 106 = .ok (.if_icmp .eq 12, 3) := by decide +kernel
theorem dX10_readInstruction_109 : decode cX10_readInstruction 109 = .ok (.aload_n 0, 1) := by decide +kernel
theorem dX10_readInstruction_110 : decode cX10_readInstruction 110 = .ok (.aload_n 0, 1) := by decide +kernel
theorem dX10_readInstruction_111 : decode cX10_readInstruction 111 = .ok (.getfield 26, 3) := by decide +kernel
theorem dX10_readInstruction_114 : decode cX10_readInstruction 114 = .ok (.invokevirtual 43, 3) := by decide +kernel
theorem dX10_readInstruction_117 : decode cX10_readInstruction 117 = .ok (.ireturn, 1) := by decide +kernel
theorem dX10_readInstruction_118 : decode cX10_readInstruction 118 = .ok (.aload_n 0, 1) := by decide +kernel
theorem dX10_readInstruction_119 : decode cX10_readInstruction 119 = .ok (.invokevirtual 29, 3) := by decide +kernel
theorem dX10_readInstruction_122 : decode cX10_readInstruction 122 = .ok (.aload_n 0, 1) := by decide +kernel
theorem dX10_readInstruction_123 : decode cX10_readInstruction 123 = .ok (.iload_n 1, 1) := by decide +kernel
theorem dX10_readInstruction_124 : decode cX10_readInstruction 124 = .ok (.iconst 1, 1) := by decide +kernel
theorem dX10_readInstruction_125 : decode cX10_readInstruction 125 = .ok (.iadd, 1) := by decide +kernel
theorem dX10_readInstruction_126 : decode cX10_readInstruction 126 = .ok (.iload 5, 2) := by decide +kernel
theorem dX10_readInstruction_128 : decode cX10_readInstruction 128 = .ok (.iadd, 1) := by decide +kernel
theorem dX10_readInstruction_129 : decode cX10_readInstruction 129 = .ok (.aload 4, 2) := by decide +kernel
theorem dX10_readInstruction_131 : decode cX10_readInstruction 131 = .ok (.iload 5, 2) := by decide +kernel
theorem dX10_readInstruction_133 : decode cX10_readInstruction 133 = .ok (.invokevirtual 68, 3) := by decide +kernel
theorem dX10_readInstruction_136 : decode cX10_readInstruction 136 = .ok (.invokevirtual 72, 3) := by decide +kernel
theorem dX10_readInstruction_139 : decode cX10_readInstruction 139 = .ok (.ifCond .ne 5, 3) := by decide +kernel
theorem dX10_readInstruction_142 : decode cX10_readInstruction 142 = .ok (.iconst 0, 1) := by decide +kernel
theorem dX10_readInstruction_143 : decode cX10_readInstruction 143 = .ok (.ireturn, 1) := by decide +kernel
theorem dX10_readInstruction_144 : decode cX10_readInstruction 144 = .ok (.iinc 5 1, 3) := by decide +kernel
theorem dX10_readInstruction_147 : decode cX10_readInstruction 147 = .ok (.goto (-57), 3) := by decide +kernel
theorem dX10_readInstruction_150 : decode cX10_readInstruction 150 = .ok (.iconst 1, 1) := by decide +kernel
theorem dX10_readInstruction_151 : decode cX10_readInstruction 151 = .ok (.ireturn, 1) := by decide +kernel
theorem dX10_readNumber_0 : decode cX10_readNumber 0 = .ok (.aload_n 0, 1) := by decide +kernel
theorem dX10_readNumber_1 : decode cX10_readNumber 1 = .ok (.getfield 26, 3) := by decide +kernel
theorem dX10_readNumber_4 : decode cX10_readNumber 4 = .ok (.istore_n 3, 1) := by decide +kernel
theorem dX10_readNumber_5 : decode cX10_readNumber 5 = .ok (.aload_n 0, 1) := by decide +kernel
theorem dX10_readNumber_6 : decode cX10_readNumber 6 = .ok (.invokevirtual 39, 3) := by decide +kernel
theorem dX10_readNumber_9 : decode cX10_readNumber 9 = .ok (.bipush 45, 2) := by decide +kernel
theorem dX10_readNumber_11 : decode cX10_readNumber 11 = .ok (.if_icmp .ne 7, 3) := by decide +kernel
theorem dX10_readNumber_14 : decode cX10_readNumber 14 = .ok (.iconst 1, 1) := by decide +kernel
theorem dX10_readNumber_15 : decode cX10_readNumber 15 = .ok (.goto 4, 3) := by decide +kernel
theorem dX10_readNumber_18 : decode cX10_readNumber 18 = .ok (.iconst 0, 1) := by decide +kernel
theorem dX10_readNumber_19 : decode cX10_readNumber 19 = .ok (.istore 4, 2) := by decide +kernel
theorem dX10_readNumber_21 : decode cX10_readNumber 21 = .ok (.iload 4, 2) := by decide +kernel
theorem dX10_readNumber_23 : decode cX10_readNumber 23 = .ok (.ifCond .eq 13, 3) := by decide +kernel
theorem dX10_readNumber_26 : decode cX10_readNumber 26 = .ok (.aload_n 0, 1) := by decide +kernel
theorem dX10_readNumber_27 : decode cX10_readNumber 27 = .ok (.dup, 1) := by decide +kernel
theorem dX10_readNumber_28 : decode cX10_readNumber 28 = .ok (.getfield 26, 3) := by decide +kernel
theorem dX10_readNumber_31 : decode cX10_readNumber 31 = .ok (.iconst 1, 1) := by decide +kernel
theorem dX10_readNumber_32 : decode cX10_readNumber 32 = .ok (.iadd, 1) := by decide +kernel
theorem dX10_readNumber_33 : decode cX10_readNumber 33 = .ok (.putfield 26, 3) := by decide +kernel
theorem dX10_readNumber_36 : decode cX10_readNumber 36 = .ok (.aload_n 0, 1) := by decide +kernel
theorem dX10_readNumber_37 : decode cX10_readNumber 37 = .ok (.getfield 26, 3) := by decide +kernel
theorem dX10_readNumber_40 : decode cX10_readNumber 40 = .ok (.istore 5, 2) := by decide +kernel
theorem dX10_readNumber_42 : decode cX10_readNumber 42 = .ok (.iconst 0, 1) := by decide +kernel
theorem dX10_readNumber_43 : decode cX10_readNumber 43 = .ok (.istore 6, 2) := by decide +kernel
theorem dX10_readNumber_45 : decode cX10_readNumber 45 = .ok (.aload_n 0, 1) := by decide +kernel
theorem dX10_readNumber_46 : decode cX10_readNumber 46 = .ok (.getfield 26, 3) := by decide +kernel
theorem dX10_readNumber_49 : decode cX10_readNumber 49 = .ok (.iload 5, 2) := by decide +kernel
theorem dX10_readNumber_51 : decode cX10_readNumber 51 = .ok (.isub, 1) := by decide +kernel
theorem dX10_readNumber_52 : decode cX10_readNumber 52 = .ok (.bipush 9, 2) := by decide +kernel
theorem dX10_readNumber_54 : decode cX10_readNumber 54 = .ok (.if_icmp .ge 49, 3) := by decide +kernel
theorem dX10_readNumber_57 : decode cX10_readNumber 57 = .ok (.aload_n 0, 1) := by decide +kernel
theorem dX10_readNumber_58 : decode cX10_readNumber 58 = .ok (.invokevirtual 39, 3) := by decide +kernel
theorem dX10_readNumber_61 : decode cX10_readNumber 61 = .ok (.bipush 48, 2) := by decide +kernel
theorem dX10_readNumber_63 : decode cX10_readNumber 63 = .ok (.if_icmp .lt 40, 3) := by decide +kernel
theorem dX10_readNumber_66 : decode cX10_readNumber 66 = .ok (.aload_n 0, 1) := by decide +kernel
theorem dX10_readNumber_67 : decode cX10_readNumber 67 = .ok (.invokevirtual 39, 3) := by decide +kernel
theorem dX10_readNumber_70 : decode cX10_readNumber 70 = .ok (.bipush 57, 2) := by decide +kernel
theorem dX10_readNumber_72 : decode cX10_readNumber 72 = .ok (.if_icmp .gt 31, 3) := by decide +kernel
theorem dX10_readNumber_75 : decode cX10_readNumber 75 = .ok (.iload 6, 2) := by decide +kernel
theorem dX10_readNumber_77 : decode cX10_readNumber 77 = .ok (.bipush 10, 2) := by decide +kernel
theorem dX10_readNumber_79 : decode cX10_readNumber 79 = .ok (.imul, 1) := by decide +kernel
theorem dX10_readNumber_80 : decode cX10_readNumber 80 = .ok (.aload_n 0, 1) := by decide +kernel
theorem dX10_readNumber_81 : decode cX10_readNumber 81 = .ok (.invokevirtual 39, 3) := by decide +kernel
theorem dX10_readNumber_84 : decode cX10_readNumber 84 = .ok (.bipush 48, 2) := by decide +kernel
theorem dX10_readNumber_86 : decode cX10_readNumber 86 = .ok (.isub, 1) := by decide +kernel
theorem dX10_readNumber_87 : decode cX10_readNumber 87 = .ok (.iadd, 1) := by decide +kernel
theorem dX10_readNumber_88 : decode cX10_readNumber 88 = .ok (.istore 6, 2) := by decide +kernel
theorem dX10_readNumber_90 : decode cX10_readNumber 90 = .ok (.aload_n 0, 1) := by decide +kernel
theorem dX10_readNumber_91 : decode cX10_readNumber 91 = .ok (.dup, 1) := by decide +kernel
theorem dX10_readNumber_92 : decode cX10_readNumber 92 = .ok (.getfield 26, 3) := by decide +kernel
theorem dX10_readNumber_95 : decode cX10_readNumber 95 = .ok (.iconst 1, 1) := by decide +kernel
theorem dX10_readNumber_96 : decode cX10_readNumber 96 = .ok (.iadd, 1) := by decide +kernel
theorem dX10_readNumber_97 : decode cX10_readNumber 97 = .ok (.putfield 26, 3) := by decide +kernel
theorem dX10_readNumber_100 : decode cX10_readNumber 100 = .ok (.goto (-55), 3) := by decide +kernel
theorem dX10_readNumber_103 : decode cX10_readNumber 103 = .ok (.aload_n 0, 1) := by decide +kernel
theorem dX10_readNumber_104 : decode cX10_readNumber 104 = .ok (.getfield 26, 3) := by decide +kernel
theorem dX10_readNumber_107 : decode cX10_readNumber 107 = .ok (.iload 5, 2) := by decide +kernel
theorem dX10_readNumber_109 : decode cX10_readNumber 109 = .ok (.if_icmp .ne 12, 3) := by decide +kernel
theorem dX10_readNumber_112 : decode cX10_readNumber 112 = .ok (.aload_n 0, 1) := by decide +kernel
theorem dX10_readNumber_113 : decode cX10_readNumber 113 = .ok (.aload_n 0, 1) := by decide +kernel
theorem dX10_readNumber_114 : decode cX10_readNumber 114 = .ok (.getfield 26, 3) := by decide +kernel
theorem dX10_readNumber_117 : decode cX10_readNumber 117 = .ok (.invokevirtual 43, 3) := by decide +kernel
theorem dX10_readNumber_120 : decode cX10_readNumber 120 = .ok (.ireturn, 1) := by decide +kernel
theorem dX10_readNumber_121 : decode cX10_readNumber 121 = .ok (.iload 4, 2) := by decide +kernel
theorem dX10_readNumber_123 : decode cX10_readNumber 123 = .ok (.ifCond .eq 9, 3) := by decide +kernel
theorem dX10_readNumber_126 : decode cX10_readNumber 126 = .ok (.iload 6, 2) := by decide +kernel
theorem dX10_readNumber_128 : decode cX10_readNumber 128 = .ok (.ineg, 1) := by decide +kernel
theorem dX10_readNumber_129 : decode cX10_readNumber 129 = .ok (.goto 5, 3) := by decide +kernel
theorem dX10_readNumber_132 : decode cX10_readNumber 132 = .ok (.iload 6, 2) := by decide +kernel
theorem dX10_readNumber_134 : decode cX10_readNumber 134 = .ok (.istore 6, 2) := by decide +kernel
theorem dX10_readNumber_136 : decode cX10_readNumber 136 = .ok (.iload_n 2, 1) := by decide +kernel
theorem dX10_readNumber_137 : decode cX10_readNumber 137 = .ok (.iload 6, 2) := by decide +kernel
theorem dX10_readNumber_139 : decode cX10_readNumber 139 = .ok (.invokestatic 76, 3) := by decide +kernel
theorem dX10_readNumber_142 : decode cX10_readNumber 142 = .ok (.ifCond .ne 9, 3) := by decide +kernel
theorem dX10_readNumber_145 : decode cX10_readNumber 145 = .ok (.aload_n 0, 1) := by decide +kernel
theorem dX10_readNumber_146 : decode cX10_readNumber 146 = .ok (.iload_n 3, 1) := by decide +kernel
theorem dX10_readNumber_147 : decode cX10_readNumber 147 = .ok (.invokevirtual 43, 3) := by decide +kernel
theorem dX10_readNumber_150 : decode cX10_readNumber 150 = .ok (.ireturn, 1) := by decide +kernel
theorem dX10_readNumber_151 : decode cX10_readNumber 151 = .ok (.aload_n 0, 1) := by decide +kernel
theorem dX10_readNumber_152 : decode cX10_readNumber 152 = .ok (.iload_n 1, 1) := by decide +kernel
theorem dX10_readNumber_153 : decode cX10_readNumber 153 = .ok (.iload 6, 2) := by decide +kernel
theorem dX10_readNumber_155 : decode cX10_readNumber 155 = .ok (.invokevirtual 54, 3) := by decide +kernel
theorem dX10_readNumber_158 : decode cX10_readNumber 158 = .ok (.iconst 1, 1) := by decide +kernel
theorem dX10_readNumber_159 : decode cX10_readNumber 159 = .ok (.ireturn, 1) := by decide +kernel
theorem dX10_inRange_0 : decode cX10_inRange 0 = .ok (.iload_n 0, 1) := by decide +kernel
theorem dX10_inRange_1 : decode cX10_inRange 1 = .ok (.bipush 111, 2) := by decide +kernel
theorem dX10_inRange_3 : decode cX10_inRange 3 = .ok (.if_icmp .ne 19, 3) := by decide +kernel
theorem dX10_inRange_6 : decode cX10_inRange 6 = .ok (.iload_n 1, 1) := by decide +kernel
theorem dX10_inRange_7 : decode cX10_inRange 7 = .ok (.ifCond .lt 13, 3) := by decide +kernel
theorem dX10_inRange_10 : decode cX10_inRange 10 = .ok (.iload_n 1, 1) := by decide +kernel
theorem dX10_inRange_11 : decode cX10_inRange 11 = .ok (.bipush 24, 2) := by decide +kernel
theorem dX10_inRange_13 : decode cX10_inRange 13 = .ok (.if_icmp .ge 7, 3) := by decide +kernel
theorem dX10_inRange_16 : decode cX10_inRange 16 = .ok (.iconst 1, 1) := by decide +kernel
theorem dX10_inRange_17 : decode cX10_inRange 17 = .ok (.goto 4, 3) := by decide +kernel
theorem dX10_inRange_20 : decode cX10_inRange 20 = .ok (.iconst 0, 1) := by decide +kernel
theorem dX10_inRange_21 : decode cX10_inRange 21 = .ok (.ireturn, 1) := by decide +kernel
theorem dX10_inRange_22 : decode cX10_inRange 22 = .ok (.iload_n 0, 1) := by decide +kernel
theorem dX10_inRange_23 : decode cX10_inRange 23 = .ok (.bipush 107, 2) := by decide +kernel
theorem dX10_inRange_25 : decode cX10_inRange 25 = .ok (.if_icmp .ne 19, 3) := by decide +kernel
theorem dX10_inRange_28 : decode cX10_inRange 28 = .ok (.iload_n 1, 1) := by decide +kernel
theorem dX10_inRange_29 : decode cX10_inRange 29 = .ok (.ifCond .lt 13, 3) := by decide +kernel
theorem dX10_inRange_32 : decode cX10_inRange 32 = .ok (.iload_n 1, 1) := by decide +kernel
theorem dX10_inRange_33 : decode cX10_inRange 33 = .ok (.bipush 60, 2) := by decide +kernel
theorem dX10_inRange_35 : decode cX10_inRange 35 = .ok (.if_icmp .ge 7, 3) := by decide +kernel
theorem dX10_inRange_38 : decode cX10_inRange 38 = .ok (.iconst 1, 1) := by decide +kernel
theorem dX10_inRange_39 : decode cX10_inRange 39 = .ok (.goto 4, 3) := by decide +kernel
theorem dX10_inRange_42 : decode cX10_inRange 42 = .ok (.iconst 0, 1) := by decide +kernel
theorem dX10_inRange_43 : decode cX10_inRange 43 = .ok (.ireturn, 1) := by decide +kernel
theorem dX10_inRange_44 : decode cX10_inRange 44 = .ok (.iload_n 0, 1) := by decide +kernel
theorem dX10_inRange_45 : decode cX10_inRange 45 = .ok (.bipush 112, 2) := by decide +kernel
theorem dX10_inRange_47 : decode cX10_inRange 47 = .ok (.if_icmp .ne 8, 3) := by decide +kernel
theorem dX10_inRange_50 : decode cX10_inRange 50 = .ok (.iload_n 1, 1) := by decide +kernel
theorem dX10_inRange_51 : decode cX10_inRange 51 = .ok (.iconst 1, 1) := by decide +kernel
theorem dX10_inRange_52 : decode cX10_inRange 52 = .ok (.if_icmp .lt 7, 3) := by decide +kernel
theorem dX10_inRange_55 : decode cX10_inRange 55 = .ok (.iconst 1, 1) := by decide +kernel
theorem dX10_inRange_56 : decode cX10_inRange 56 = .ok (.goto 4, 3) := by decide +kernel
theorem dX10_inRange_59 : decode cX10_inRange 59 = .ok (.iconst 0, 1) := by decide +kernel
theorem dX10_inRange_60 : decode cX10_inRange 60 = .ok (.ireturn, 1) := by decide +kernel
theorem dX10_wordAt_0 : decode cX10_wordAt 0 = .ok (.iconst 0, 1) := by decide +kernel
theorem dX10_wordAt_1 : decode cX10_wordAt 1 = .ok (.istore_n 2, 1) := by decide +kernel
theorem dX10_wordAt_2 : decode cX10_wordAt 2 = .ok (.iload_n 2, 1) := by decide +kernel
theorem dX10_wordAt_3 : decode cX10_wordAt 3 = .ok (.getstatic 50, 3) := by decide +kernel
theorem dX10_wordAt_6 : decode cX10_wordAt 6 = .ok (.arraylength, 1) := by decide +kernel
theorem dX10_wordAt_7 : decode cX10_wordAt 7 = .ok (.if_icmp .ge 27, 3) := by decide +kernel
theorem dX10_wordAt_10 : decode cX10_wordAt 10 = .ok (.aload_n 0, 1) := by decide +kernel
theorem dX10_wordAt_11 : decode cX10_wordAt 11 = .ok (.iload_n 1, 1) := by decide +kernel
theorem dX10_wordAt_12 : decode cX10_wordAt 12 = .ok (.getstatic 50, 3) := by decide +kernel
theorem dX10_wordAt_15 : decode cX10_wordAt 15 = .ok (.iload_n 2, 1) := by decide +kernel
theorem dX10_wordAt_16 : decode cX10_wordAt 16 = .ok (.aaload, 1) := by decide +kernel
theorem dX10_wordAt_17 : decode cX10_wordAt 17 = .ok (.getfield 80, 3) := by decide +kernel
theorem dX10_wordAt_20 : decode cX10_wordAt 20 = .ok (.invokevirtual 83, 3) := by decide +kernel
theorem dX10_wordAt_23 : decode cX10_wordAt 23 = .ok (.ifCond .eq 5, 3) := by decide +kernel
theorem dX10_wordAt_26 : decode cX10_wordAt 26 = .ok (.iload_n 2, 1) := by decide +kernel
theorem dX10_wordAt_27 : decode cX10_wordAt 27 = .ok (.ireturn, 1) := by decide +kernel
theorem dX10_wordAt_28 : decode cX10_wordAt 28 = .ok (.iinc 2 1, 3) := by decide +kernel
theorem dX10_wordAt_31 : decode cX10_wordAt 31 = .ok (.goto (-29), 3) := by decide +kernel
theorem dX10_wordAt_34 : decode cX10_wordAt 34 = .ok (.iconst (-1), 1) := by decide +kernel
theorem dX10_wordAt_35 : decode cX10_wordAt 35 = .ok (.ireturn, 1) := by decide +kernel
theorem dX10_isText_0 : decode cX10_isText 0 = .ok (.aload_n 0, 1) := by decide +kernel
theorem dX10_isText_1 : decode cX10_isText 1 = .ok (.getfield 26, 3) := by decide +kernel
theorem dX10_isText_4 : decode cX10_isText 4 = .ok (.iload_n 1, 1) := by decide +kernel
theorem dX10_isText_5 : decode cX10_isText 5 = .ok (.isub, 1) := by decide +kernel
theorem dX10_isText_6 : decode cX10_isText 6 = .ok (.aload_n 2, 1) := by decide +kernel
theorem dX10_isText_7 : decode cX10_isText 7 = .ok (.invokevirtual 64, 3) := by decide +kernel
theorem dX10_isText_10 : decode cX10_isText 10 = .ok (.if_icmp .ne 19, 3) := by decide +kernel
theorem dX10_isText_13 : decode cX10_isText 13 = .ok (.iload_n 1, 1) := by decide +kernel
theorem dX10_isText_14 : decode cX10_isText 14 = .ok (.ifCond .lt 15, 3) := by decide +kernel
theorem dX10_isText_17 : decode cX10_isText 17 = .ok (.aload_n 0, 1) := by decide +kernel
theorem dX10_isText_18 : decode cX10_isText 18 = .ok (.getfield 26, 3) := by decide +kernel
theorem dX10_isText_21 : decode cX10_isText 21 = .ok (.aload_n 0, 1) := by decide +kernel
theorem dX10_isText_22 : decode cX10_isText 22 = .ok (.getfield 19, 3) := by decide +kernel
theorem dX10_isText_25 : decode cX10_isText 25 = .ok (.arraylength, 1) := by decide +kernel
theorem dX10_isText_26 : decode cX10_isText 26 = .ok (.if_icmp .le 5, 3) := by decide +kernel
theorem dX10_isText_29 : decode cX10_isText 29 = .ok (.iconst 0, 1) := by decide +kernel
theorem dX10_isText_30 : decode cX10_isText 30 = .ok (.ireturn, 1) := by decide +kernel
theorem dX10_isText_31 : decode cX10_isText 31 = .ok (.iconst 0, 1) := by decide +kernel
theorem dX10_isText_32 : decode cX10_isText 32 = .ok (.istore_n 3, 1) := by decide +kernel
theorem dX10_isText_33 : decode cX10_isText 33 = .ok (.iload_n 3, 1) := by decide +kernel
theorem dX10_isText_34 : decode cX10_isText 34 = .ok (.aload_n 2, 1) := by decide +kernel
theorem dX10_isText_35 : decode cX10_isText 35 = .ok (.invokevirtual 64, 3) := by decide +kernel
theorem dX10_isText_38 : decode cX10_isText 38 = .ok (.if_icmp .ge 27, 3) := by decide +kernel
theorem dX10_isText_41 : decode cX10_isText 41 = .ok (.aload_n 0, 1) := by decide +kernel
theorem dX10_isText_42 : decode cX10_isText 42 = .ok (.getfield 19, 3) := by decide +kernel
theorem dX10_isText_45 : decode cX10_isText 45 = .ok (.iload_n 1, 1) := by decide +kernel
theorem dX10_isText_46 : decode cX10_isText 46 = .ok (.iload_n 3, 1) := by decide +kernel
theorem dX10_isText_47 : decode cX10_isText 47 = .ok (.iadd, 1) := by decide +kernel
theorem dX10_isText_48 : decode cX10_isText 48 = .ok (.baload, 1) := by decide +kernel
theorem dX10_isText_49 : decode cX10_isText 49 = .ok (.aload_n 2, 1) := by decide +kernel
theorem dX10_isText_50 : decode cX10_isText 50 = .ok (.iload_n 3, 1) := by decide +kernel
theorem dX10_isText_51 : decode cX10_isText 51 = .ok (.invokevirtual 68, 3) := by decide +kernel
theorem dX10_isText_54 : decode cX10_isText 54 = .ok (.if_icmp .eq 5, 3) := by decide +kernel
theorem dX10_isText_57 : decode cX10_isText 57 = .ok (.iconst 0, 1) := by decide +kernel
theorem dX10_isText_58 : decode cX10_isText 58 = .ok (.ireturn, 1) := by decide +kernel
theorem dX10_isText_59 : decode cX10_isText 59 = .ok (.iinc 3 1, 3) := by decide +kernel
theorem dX10_isText_62 : decode cX10_isText 62 = .ok (.goto (-29), 3) := by decide +kernel
theorem dX10_isText_65 : decode cX10_isText 65 = .ok (.iconst 1, 1) := by decide +kernel
theorem dX10_isText_66 : decode cX10_isText 66 = .ok (.ireturn, 1) := by decide +kernel
theorem dX10_skipBlanks_0 : decode cX10_skipBlanks 0 = .ok (.aload_n 0, 1) := by decide +kernel
theorem dX10_skipBlanks_1 : decode cX10_skipBlanks 1 = .ok (.getfield 26, 3) := by decide +kernel
theorem dX10_skipBlanks_4 : decode cX10_skipBlanks 4 = .ok (.aload_n 0, 1) := by decide +kernel
theorem dX10_skipBlanks_5 : decode cX10_skipBlanks 5 = .ok (.getfield 23, 3) := by decide +kernel
theorem dX10_skipBlanks_8 : decode cX10_skipBlanks 8 = .ok (.if_icmp .ge 25, 3) := by decide +kernel
theorem dX10_skipBlanks_11 : decode cX10_skipBlanks 11 = .ok (.aload_n 0, 1) := by decide +kernel
theorem dX10_skipBlanks_12 : decode cX10_skipBlanks 12 = .ok (.invokevirtual 39, 3) := by decide +kernel
theorem dX10_skipBlanks_15 : decode cX10_skipBlanks 15 = .ok (.bipush 32, 2) := by decide +kernel
theorem dX10_skipBlanks_17 : decode cX10_skipBlanks 17 = .ok (.if_icmp .ne 16, 3) := by decide +kernel
theorem dX10_skipBlanks_20 : decode cX10_skipBlanks 20 = .ok (.aload_n 0, 1) := by decide +kernel
theorem dX10_skipBlanks_21 : decode cX10_skipBlanks 21 = .ok (.dup, 1) := by decide +kernel
theorem dX10_skipBlanks_22 : decode cX10_skipBlanks 22 = .ok (.getfield 26, 3) := by decide +kernel
theorem dX10_skipBlanks_25 : decode cX10_skipBlanks 25 = .ok (.iconst 1, 1) := by decide +kernel
theorem dX10_skipBlanks_26 : decode cX10_skipBlanks 26 = .ok (.iadd, 1) := by decide +kernel
theorem dX10_skipBlanks_27 : decode cX10_skipBlanks 27 = .ok (.putfield 26, 3) := by decide +kernel
theorem dX10_skipBlanks_30 : decode cX10_skipBlanks 30 = .ok (.goto (-30), 3) := by decide +kernel
theorem dX10_skipBlanks_33 : decode cX10_skipBlanks 33 = .ok (.return_, 1) := by decide +kernel
theorem dX10_here_0 : decode cX10_here 0 = .ok (.aload_n 0, 1) := by decide +kernel
theorem dX10_here_1 : decode cX10_here 1 = .ok (.getfield 26, 3) := by decide +kernel
theorem dX10_here_4 : decode cX10_here 4 = .ok (.ifCond .lt 38, 3) := by decide +kernel
theorem dX10_here_7 : decode cX10_here 7 = .ok (.aload_n 0, 1) := by decide +kernel
theorem dX10_here_8 : decode cX10_here 8 = .ok (.getfield 26, 3) := by decide +kernel
theorem dX10_here_11 : decode cX10_here 11 = .ok (.aload_n 0, 1) := by decide +kernel
theorem dX10_here_12 : decode cX10_here 12 = .ok (.getfield 23, 3) := by decide +kernel
theorem dX10_here_15 : decode cX10_here 15 = .ok (.if_icmp .ge 27, 3) := by decide +kernel
theorem dX10_here_18 : decode cX10_here 18 = .ok (.aload_n 0, 1) := by decide +kernel
theorem dX10_here_19 : decode cX10_here 19 = .ok (.getfield 26, 3) := by decide +kernel
theorem dX10_here_22 : decode cX10_here 22 = .ok (.aload_n 0, 1) := by decide +kernel
theorem dX10_here_23 : decode cX10_here 23 = .ok (.getfield 19, 3) := by decide +kernel
theorem dX10_here_26 : decode cX10_here 26 = .ok (.arraylength, 1) := by decide +kernel
theorem dX10_here_27 : decode cX10_here 27 = .ok (.if_icmp .ge 15, 3) := by decide +kernel
theorem dX10_here_30 : decode cX10_here 30 = .ok (.aload_n 0, 1) := by decide +kernel
theorem dX10_here_31 : decode cX10_here 31 = .ok (.getfield 19, 3) := by decide +kernel
theorem dX10_here_34 : decode cX10_here 34 = .ok (.aload_n 0, 1) := by decide +kernel
theorem dX10_here_35 : decode cX10_here 35 = .ok (.getfield 26, 3) := by decide +kernel
theorem dX10_here_38 : decode cX10_here 38 = .ok (.baload, 1) := by decide +kernel
theorem dX10_here_39 : decode cX10_here 39 = .ok (.goto 4, 3) := by decide +kernel
theorem dX10_here_42 : decode cX10_here 42 = .ok (.iconst (-1), 1) := by decide +kernel
theorem dX10_here_43 : decode cX10_here 43 = .ok (.ireturn, 1) := by decide +kernel
theorem dX10_store_0 : decode cX10_store 0 = .ok (.iload_n 1, 1) := by decide +kernel
theorem dX10_store_1 : decode cX10_store 1 = .ok (.ifCond .lt 19, 3) := by decide +kernel
theorem dX10_store_4 : decode cX10_store 4 = .ok (.iload_n 1, 1) := by decide +kernel
theorem dX10_store_5 : decode cX10_store 5 = .ok (.aload_n 0, 1) := by decide +kernel
theorem dX10_store_6 : decode cX10_store 6 = .ok (.getfield 9, 3) := by decide +kernel
theorem dX10_store_9 : decode cX10_store 9 = .ok (.arraylength, 1) := by decide +kernel
theorem dX10_store_10 : decode cX10_store 10 = .ok (.if_icmp .ge 10, 3) := by decide +kernel
theorem dX10_store_13 : decode cX10_store 13 = .ok (.aload_n 0, 1) := by decide +kernel
theorem dX10_store_14 : decode cX10_store 14 = .ok (.getfield 9, 3) := by decide +kernel
theorem dX10_store_17 : decode cX10_store 17 = .ok (.iload_n 1, 1) := by decide +kernel
theorem dX10_store_18 : decode cX10_store 18 = .ok (.iload_n 2, 1) := by decide +kernel
theorem dX10_store_19 : decode cX10_store 19 = .ok (.iastore, 1) := by decide +kernel
theorem dX10_store_20 : decode cX10_store 20 = .ok (.return_, 1) := by decide +kernel
theorem dX10_broken_0 : decode cX10_broken 0 = .ok (.aload_n 0, 1) := by decide +kernel
theorem dX10_broken_1 : decode cX10_broken 1 = .ok (.iload_n 1, 1) := by decide +kernel
theorem dX10_broken_2 : decode cX10_broken 2 = .ok (.putfield 15, 3) := by decide +kernel
theorem dX10_broken_5 : decode cX10_broken 5 = .ok (.iconst 0, 1) := by decide +kernel
theorem dX10_broken_6 : decode cX10_broken 6 = .ok (.ireturn, 1) := by decide +kernel
theorem dX12_init_0 : decode cX12_init 0 = .ok (.aload_n 0, 1) := by decide +kernel
theorem dX12_init_1 : decode cX12_init 1 = .ok (.invokespecial 1, 3) := by decide +kernel
theorem dX12_init_4 : decode cX12_init 4 = .ok (.aload_n 0, 1) := by decide +kernel
theorem dX12_init_5 : decode cX12_init 5 = .ok (.new 7, 3) := by decide +kernel
theorem dX12_init_8 : decode cX12_init 8 = .ok (.dup, 1) := by decide +kernel
theorem dX12_init_9 : decode cX12_init 9 = .ok (.invokespecial 9, 3) := by decide +kernel
theorem dX12_init_12 : decode cX12_init 12 = .ok (.putfield 10, 3) := by decide +kernel
theorem dX12_init_15 : decode cX12_init 15 = .ok (.aload_n 0, 1) := by decide +kernel
theorem dX12_init_16 : decode cX12_init 16 = .ok (.bipush 24, 2) := by decide +kernel
theorem dX12_init_18 : decode cX12_init 18 = .ok (.anewarray 16, 3) := by decide +kernel
theorem dX12_init_21 : decode cX12_init 21 = .ok (.putfield 18, 3) := by decide +kernel
theorem dX12_init_24 : decode cX12_init 24 = .ok (.aload_n 0, 1) := by decide +kernel
theorem dX12_init_25 : decode cX12_init 25 = .ok (.bipush 8, 2) := by decide +kernel
theorem dX12_init_27 : decode cX12_init 27 = .ok (.anewarray 22, 3) := by decide +kernel
theorem dX12_init_30 : decode cX12_init 30 = .ok (.putfield 24, 3) := by decide +kernel
theorem dX12_init_33 : decode cX12_init 33 = .ok (.aload_n 0, 1) := by decide +kernel
theorem dX12_init_34 : decode cX12_init 34 = .ok (.bipush 7, 2) := by decide +kernel
theorem dX12_init_36 : decode cX12_init 36 = .ok (.putfield 28, 3) := by decide +kernel
theorem dX12_init_39 : decode cX12_init 39 = .ok (.iconst 0, 1) := by decide +kernel
theorem dX12_init_40 : decode cX12_init 40 = .ok (.istore_n 1, 1) := by decide +kernel
theorem dX12_init_41 : decode cX12_init 41 = .ok (.iload_n 1, 1) := by decide +kernel
theorem dX12_init_42 : decode cX12_init 42 = .ok (.bipush 8, 2) := by decide +kernel
theorem dX12_init_44 : decode cX12_init 44 = .ok (.if_icmp .ge 23, 3) := by decide +kernel
theorem dX12_init_47 : decode cX12_init 47 = .ok (.aload_n 0, 1) := by decide +kernel
theorem dX12_init_48 : decode cX12_init 48 = .ok (.getfield 24, 3) := by decide +kernel
theorem dX12_init_51 : decode cX12_init 51 = .ok (.iload_n 1, 1) := by decide +kernel
theorem dX12_init_52 : decode cX12_init 52 = .ok (.new 22, 3) := by decide +kernel
theorem dX12_init_55 : decode cX12_init 55 = .ok (.dup, 1) := by decide +kernel
theorem dX12_init_56 : decode cX12_init 56 = .ok (.iload_n 1, 1) := by decide +kernel
theorem dX12_init_57 : decode cX12_init 57 = .ok (.invokespecial 32, 3) := by decide +kernel
theorem dX12_init_60 : decode cX12_init 60 = .ok (.aastore, 1) := by decide +kernel
theorem dX12_init_61 : decode cX12_init 61 = .ok (.iinc 1 1, 3) := by decide +kernel
theorem dX12_init_64 : decode cX12_init 64 = .ok (.goto (-23), 3) := by decide +kernel
theorem dX12_init_67 : decode cX12_init 67 = .ok (.return_, 1) := by decide +kernel
theorem dX12_feed_0 : decode cX12_feed 0 = .ok (.aload_n 0, 1) := by decide +kernel
theorem dX12_feed_1 : decode cX12_feed 1 = .ok (.getfield 10, 3) := by decide +kernel
theorem dX12_feed_4 : decode cX12_feed 4 = .ok (.getfield 35, 3) := by decide +kernel
theorem dX12_feed_7 : decode cX12_feed 7 = .ok (.bipush 20, 2) := by decide +kernel
theorem dX12_feed_9 : decode cX12_feed 9 = .ok (.iadd, 1) := by decide +kernel
theorem dX12_feed_10 : decode cX12_feed 10 = .ok (.sipush 1600, 3) := by decide +kernel
theorem dX12_feed_13 : decode cX12_feed 13 = .ok (.if_icmp .le 13, 3) := by decide +kernel
theorem dX12_feed_16 : decode cX12_feed 16 = .ok (.new 38, 3) := by decide +kernel
theorem dX12_feed_19 : decode cX12_feed 19 = .ok (.dup, 1) := by decide +kernel
theorem dX12_feed_20 : decode cX12_feed 20 = .ok (.ldc 40, 2) := by decide +kernel
theorem dX12_feed_22 : decode cX12_feed 22 = .ok (.invokespecial 42, 3) := by decide +kernel
theorem dX12_feed_25 : decode cX12_feed 25 = .ok (.athrow, 1) := by decide +kernel
theorem dX12_feed_26 : decode cX12_feed 26 = .ok (.aload_n 0, 1) := by decide +kernel
theorem dX12_feed_27 : decode cX12_feed 27 = .ok (.getfield 10, 3) := by decide +kernel
theorem dX12_feed_30 : decode cX12_feed 30 = .ok (.iload_n 1, 1) := by decide +kernel
theorem dX12_feed_31 : decode cX12_feed 31 = .ok (.invokevirtual 45, 3) := by decide +kernel
theorem dX12_feed_34 : decode cX12_feed 34 = .ok (.aload_n 0, 1) := by decide +kernel
theorem dX12_feed_35 : decode cX12_feed 35 = .ok (.getfield 10, 3) := by decide +kernel
theorem dX12_feed_38 : decode cX12_feed 38 = .ok (.iload_n 2, 1) := by decide +kernel
theorem dX12_feed_39 : decode cX12_feed 39 = .ok (.invokevirtual 45, 3) := by decide +kernel
theorem dX12_feed_42 : decode cX12_feed 42 = .ok (.aload_n 0, 1) := by decide +kernel
theorem dX12_feed_43 : decode cX12_feed 43 = .ok (.getfield 10, 3) := by decide +kernel
theorem dX12_feed_46 : decode cX12_feed 46 = .ok (.iload_n 3, 1) := by decide +kernel
theorem dX12_feed_47 : decode cX12_feed 47 = .ok (.invokevirtual 45, 3) := by decide +kernel
theorem dX12_feed_50 : decode cX12_feed 50 = .ok (.aload_n 0, 1) := by decide +kernel
theorem dX12_feed_51 : decode cX12_feed 51 = .ok (.getfield 10, 3) := by decide +kernel
theorem dX12_feed_54 : decode cX12_feed 54 = .ok (.iload 4, 2) := by decide +kernel
theorem dX12_feed_56 : decode cX12_feed 56 = .ok (.invokevirtual 45, 3) := by decide +kernel
theorem dX12_feed_59 : decode cX12_feed 59 = .ok (.aload_n 0, 1) := by decide +kernel
theorem dX12_feed_60 : decode cX12_feed 60 = .ok (.getfield 10, 3) := by decide +kernel
theorem dX12_feed_63 : decode cX12_feed 63 = .ok (.iload 5, 2) := by decide +kernel
theorem dX12_feed_65 : decode cX12_feed 65 = .ok (.invokevirtual 45, 3) := by decide +kernel
theorem dX12_feed_68 : decode cX12_feed 68 = .ok (.aload_n 0, 1) := by decide +kernel
theorem dX12_feed_69 : decode cX12_feed 69 = .ok (.getfield 10, 3) := by decide +kernel
theorem dX12_feed_72 : decode cX12_feed 72 = .ok (.getfield 35, 3) := by decide +kernel
theorem dX12_feed_75 : decode cX12_feed 75 = .ok (.ireturn, 1) := by decide +kernel
theorem dX12_end_0 : decode cX12_end 0 = .ok (.iload_n 1, 1) := by decide +kernel
theorem dX12_end_1 : decode cX12_end 1 = .ok (.ifCond .lt 14, 3) := by decide +kernel
theorem dX12_end_4 : decode cX12_end 4 = .ok (.iload_n 1, 1) := by decide +kernel
theorem dX12_end_5 : decode cX12_end 5 = .ok (.aload_n 0, 1) := by decide +kernel
theorem dX12_end_6 : decode cX12_end 6 = .ok (.getfield 10, 3) := by decide +kernel
theorem dX12_end_9 : decode cX12_end 9 = .ok (.getfield 35, 3) := by decide +kernel
theorem dX12_end_12 : decode cX12_end 12 = .ok (.if_icmp .le 13, 3) := by decide +kernel
theorem dX12_end_15 : decode cX12_end 15 = .ok (.new 48, 3) := by decide +kernel
theorem dX12_end_18 : decode cX12_end 18 = .ok (.dup, 1) := by decide +kernel
theorem dX12_end_19 : decode cX12_end 19 = .ok (.ldc 50, 2) := by decide +kernel
theorem dX12_end_21 : decode cX12_end 21 = .ok (.invokespecial 52, 3) := by decide +kernel
theorem dX12_end_24 : decode cX12_end 24 = .ok (.athrow, 1) := by decide +kernel
theorem dX12_end_25 : decode cX12_end 25 = .ok (.aload_n 0, 1) := by decide +kernel
theorem dX12_end_26 : decode cX12_end 26 = .ok (.getfield 10, 3) := by decide +kernel
theorem dX12_end_29 : decode cX12_end 29 = .ok (.iload_n 1, 1) := by decide +kernel
theorem dX12_end_30 : decode cX12_end 30 = .ok (.putfield 35, 3) := by decide +kernel
theorem dX12_end_33 : decode cX12_end 33 = .ok (.iload_n 1, 1) := by decide +kernel
theorem dX12_end_34 : decode cX12_end 34 = .ok (.ireturn, 1) := by decide +kernel
theorem dX12_make_0 : decode cX12_make 0 = .ok (.iload_n 1, 1) := by decide +kernel
theorem dX12_make_1 : decode cX12_make 1 = .ok (.iload_n 2, 1) := by decide +kernel
theorem dX12_make_2 : decode cX12_make 2 = .ok (.invokestatic 53, 3) := by decide +kernel
theorem dX12_make_5 : decode cX12_make 5 = .ok (.ifCond .ne 13, 3) := by decide +kernel
theorem dX12_make_8 : decode cX12_make 8 = .ok (.new 48, 3) := by decide +kernel
theorem dX12_make_11 : decode cX12_make 11 = .ok (.dup, 1) := by decide +kernel
theorem dX12_make_12 : decode cX12_make 12 = .ok (.ldc 57, 2) := by decide +kernel
theorem dX12_make_14 : decode cX12_make 14 = .ok (.invokespecial 52, 3) := by decide +kernel
theorem dX12_make_17 : decode cX12_make 17 = .ok (.athrow, 1) := by decide +kernel
theorem dX12_make_18 : decode cX12_make 18 = .ok (.aload_n 0, 1) := by decide +kernel
theorem dX12_make_19 : decode cX12_make 19 = .ok (.invokevirtual 59, 3) := by decide +kernel
theorem dX12_make_22 : decode cX12_make 22 = .ok (.istore_n 3, 1) := by decide +kernel
theorem dX12_make_23 : decode cX12_make 23 = .ok (.iload_n 3, 1) := by decide +kernel
theorem dX12_make_24 : decode cX12_make 24 = .ok (.ifCond .lt 12, 3) := by decide +kernel
theorem dX12_make_27 : decode cX12_make 27 = .ok (.iload_n 3, 1) := by decide +kernel
theorem dX12_make_28 : decode cX12_make 28 = .ok (.aload_n 0, 1) := by decide +kernel
theorem dX12_make_29 : decode cX12_make 29 = .ok (.getfield 18, 3) := by decide +kernel
theorem dX12_make_32 : decode cX12_make 32 = .ok (.arraylength, 1) := by decide +kernel
theorem dX12_make_33 : decode cX12_make 33 = .ok (.if_icmp .lt 13, 3) := by decide +kernel
theorem dX12_make_36 : decode cX12_make 36 = .ok (.new 63, 3) := by decide +kernel
theorem dX12_make_39 : decode cX12_make 39 = .ok (.dup, 1) := by decide +kernel
theorem dX12_make_40 : decode cX12_make 40 = .ok (.ldc 65, 2) := by decide +kernel
theorem dX12_make_42 : decode cX12_make 42 = .ok (.invokespecial 67, 3) := by decide +kernel
theorem dX12_make_45 : decode cX12_make 45 = .ok (.athrow, 1) := by decide +kernel
theorem dX12_make_46 : decode cX12_make 46 = .ok (.aload_n 0, 1) := by decide +kernel
theorem dX12_make_47 : decode cX12_make 47 = .ok (.getfield 18, 3) := by decide +kernel
theorem dX12_make_50 : decode cX12_make 50 = .ok (.iload_n 3, 1) := by decide +kernel
theorem dX12_make_51 : decode cX12_make 51 = .ok (.iload_n 3, 1) := by decide +kernel
theorem dX12_make_52 : decode cX12_make 52 = .ok (.iload_n 1, 1) := by decide +kernel
theorem dX12_make_53 : decode cX12_make 53 = .ok (.iload_n 2, 1) := by decide +kernel
theorem dX12_make_54 : decode cX12_make 54 = .ok (.invokestatic 68, 3) := by decide +kernel
theorem dX12_make_57 : decode cX12_make 57 = .ok (.aastore, 1) := by decide +kernel
theorem dX12_make_58 : decode cX12_make 58 = .ok (.iload_n 3, 1) := by decide +kernel
theorem dX12_make_59 : decode cX12_make 59 = .ok (.ireturn, 1) := by decide +kernel
theorem dX12_drop_0 : decode cX12_drop 0 = .ok (.iload_n 1, 1) := by decide +kernel
theorem dX12_drop_1 : decode cX12_drop 1 = .ok (.ifCond .lt 21, 3) := by decide +kernel
theorem dX12_drop_4 : decode cX12_drop 4 = .ok (.iload_n 1, 1) := by decide +kernel
theorem dX12_drop_5 : decode cX12_drop 5 = .ok (.aload_n 0, 1) := by decide +kernel
theorem dX12_drop_6 : decode cX12_drop 6 = .ok (.getfield 18, 3) := by decide +kernel
theorem dX12_drop_9 : decode cX12_drop 9 = .ok (.arraylength, 1) := by decide +kernel
theorem dX12_drop_10 : decode cX12_drop 10 = .ok (.if_icmp .ge 12, 3) := by decide +kernel
theorem dX12_drop_13 : decode cX12_drop 13 = .ok (.aload_n 0, 1) := by decide +kernel
theorem dX12_drop_14 : decode cX12_drop 14 = .ok (.getfield 18, 3) := by decide +kernel
theorem dX12_drop_17 : decode cX12_drop 17 = .ok (.iload_n 1, 1) := by decide +kernel
theorem dX12_drop_18 : decode cX12_drop 18 = .ok (.aaload, 1) := by decide +kernel

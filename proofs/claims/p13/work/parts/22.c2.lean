theorem dX12_drop_19 : decode cX12_drop 19 = .ok (.ifnonnull 13, 3) := by decide +kernel
theorem dX12_drop_22 : decode cX12_drop 22 = .ok (.new 72, 3) := by decide +kernel
theorem dX12_drop_25 : decode cX12_drop 25 = .ok (.dup, 1) := by decide +kernel
theorem dX12_drop_26 : decode cX12_drop 26 = .ok (.ldc 74, 2) := by decide +kernel
theorem dX12_drop_28 : decode cX12_drop 28 = .ok (.invokespecial 76, 3) := by decide +kernel
theorem dX12_drop_31 : decode cX12_drop 31 = .ok (.athrow, 1) := by decide +kernel
theorem dX12_drop_32 : decode cX12_drop 32 = .ok (.aload_n 0, 1) := by decide +kernel
theorem dX12_drop_33 : decode cX12_drop 33 = .ok (.getfield 18, 3) := by decide +kernel
theorem dX12_drop_36 : decode cX12_drop 36 = .ok (.iload_n 1, 1) := by decide +kernel
theorem dX12_drop_37 : decode cX12_drop 37 = .ok (.aaload, 1) := by decide +kernel
theorem dX12_drop_38 : decode cX12_drop 38 = .ok (.invokevirtual 77, 3) := by decide +kernel
theorem dX12_drop_41 : decode cX12_drop 41 = .ok (.ifCond .eq 13, 3) := by decide +kernel
theorem dX12_drop_44 : decode cX12_drop 44 = .ok (.new 63, 3) := by decide +kernel
theorem dX12_drop_47 : decode cX12_drop 47 = .ok (.dup, 1) := by decide +kernel
theorem dX12_drop_48 : decode cX12_drop 48 = .ok (.ldc 81, 2) := by decide +kernel
theorem dX12_drop_50 : decode cX12_drop 50 = .ok (.invokespecial 67, 3) := by decide +kernel
theorem dX12_drop_53 : decode cX12_drop 53 = .ok (.athrow, 1) := by decide +kernel
theorem dX12_drop_54 : decode cX12_drop 54 = .ok (.aload_n 0, 1) := by decide +kernel
theorem dX12_drop_55 : decode cX12_drop 55 = .ok (.getfield 18, 3) := by decide +kernel
theorem dX12_drop_58 : decode cX12_drop 58 = .ok (.iload_n 1, 1) := by decide +kernel
theorem dX12_drop_59 : decode cX12_drop 59 = .ok (.aconst_null, 1) := by decide +kernel
theorem dX12_drop_60 : decode cX12_drop 60 = .ok (.aastore, 1) := by decide +kernel
theorem dX12_drop_61 : decode cX12_drop 61 = .ok (.aload_n 0, 1) := by decide +kernel
theorem dX12_drop_62 : decode cX12_drop 62 = .ok (.invokevirtual 83, 3) := by decide +kernel
theorem dX12_drop_65 : decode cX12_drop 65 = .ok (.ireturn, 1) := by decide +kernel
theorem dX12_thread_0 : decode cX12_thread 0 = .ok (.aload_n 0, 1) := by decide +kernel
theorem dX12_thread_1 : decode cX12_thread 1 = .ok (.getfield 10, 3) := by decide +kernel
theorem dX12_thread_4 : decode cX12_thread 4 = .ok (.invokevirtual 86, 3) := by decide +kernel
theorem dX12_thread_7 : decode cX12_thread 7 = .ok (.istore_n 1, 1) := by decide +kernel
theorem dX12_thread_8 : decode cX12_thread 8 = .ok (.aload_n 0, 1) := by decide +kernel
theorem dX12_thread_9 : decode cX12_thread 9 = .ok (.getfield 10, 3) := by decide +kernel
theorem dX12_thread_12 : decode cX12_thread 12 = .ok (.iconst 0, 1) := by decide +kernel
theorem dX12_thread_13 : decode cX12_thread 13 = .ok (.putfield 35, 3) := by decide +kernel
theorem dX12_thread_16 : decode cX12_thread 16 = .ok (.iload_n 1, 1) := by decide +kernel
theorem dX12_thread_17 : decode cX12_thread 17 = .ok (.ifCond .ne 13, 3) := by decide +kernel
theorem dX12_thread_20 : decode cX12_thread 20 = .ok (.new 89, 3) := by decide +kernel
theorem dX12_thread_23 : decode cX12_thread 23 = .ok (.dup, 1) := by decide +kernel
theorem dX12_thread_24 : decode cX12_thread 24 = .ok (.ldc 91, 2) := by decide +kernel
theorem dX12_thread_26 : decode cX12_thread 26 = .ok (.invokespecial 93, 3) := by decide +kernel
theorem dX12_thread_29 : decode cX12_thread 29 = .ok (.athrow, 1) := by decide +kernel
theorem dX12_thread_30 : decode cX12_thread 30 = .ok (.iconst 0, 1) := by decide +kernel
theorem dX12_thread_31 : decode cX12_thread 31 = .ok (.istore_n 2, 1) := by decide +kernel
theorem dX12_thread_32 : decode cX12_thread 32 = .ok (.iload_n 2, 1) := by decide +kernel
theorem dX12_thread_33 : decode cX12_thread 33 = .ok (.aload_n 0, 1) := by decide +kernel
theorem dX12_thread_34 : decode cX12_thread 34 = .ok (.getfield 24, 3) := by decide +kernel
theorem dX12_thread_37 : decode cX12_thread 37 = .ok (.arraylength, 1) := by decide +kernel
theorem dX12_thread_38 : decode cX12_thread 38 = .ok (.if_icmp .ge 46, 3) := by decide +kernel
theorem dX12_thread_41 : decode cX12_thread 41 = .ok (.aload_n 0, 1) := by decide +kernel
theorem dX12_thread_42 : decode cX12_thread 42 = .ok (.getfield 24, 3) := by decide +kernel
theorem dX12_thread_45 : decode cX12_thread 45 = .ok (.iload_n 2, 1) := by decide +kernel
theorem dX12_thread_46 : decode cX12_thread 46 = .ok (.aaload, 1) := by decide +kernel
theorem dX12_thread_47 : decode cX12_thread 47 = .ok (.invokevirtual 94, 3) := by decide +kernel
theorem dX12_thread_50 : decode cX12_thread 50 = .ok (.ifCond .eq 28, 3) := by decide +kernel
theorem dX12_thread_53 : decode cX12_thread 53 = .ok (.aload_n 0, 1) := by decide +kernel
theorem dX12_thread_54 : decode cX12_thread 54 = .ok (.getfield 24, 3) := by decide +kernel
theorem dX12_thread_57 : decode cX12_thread 57 = .ok (.iload_n 2, 1) := by decide +kernel
theorem dX12_thread_58 : decode cX12_thread 58 = .ok (.aaload, 1) := by decide +kernel
theorem dX12_thread_59 : decode cX12_thread 59 = .ok (.aload_n 0, 1) := by decide +kernel
theorem dX12_thread_60 : decode cX12_thread 60 = .ok (.getfield 10, 3) := by decide +kernel
theorem dX12_thread_63 : decode cX12_thread 63 = .ok (.getfield 97, 3) := by decide +kernel
theorem dX12_thread_66 : decode cX12_thread 66 = .ok (.aload_n 0, 1) := by decide +kernel
theorem dX12_thread_67 : decode cX12_thread 67 = .ok (.getfield 10, 3) := by decide +kernel
theorem dX12_thread_70 : decode cX12_thread 70 = .ok (.getfield 101, 3) := by decide +kernel
theorem dX12_thread_73 : decode cX12_thread 73 = .ok (.invokevirtual 104, 3) := by decide +kernel
theorem dX12_thread_76 : decode cX12_thread 76 = .ok (.iload_n 2, 1) := by decide +kernel
theorem dX12_thread_77 : decode cX12_thread 77 = .ok (.ireturn, 1) := by decide +kernel
theorem dX12_thread_78 : decode cX12_thread 78 = .ok (.iinc 2 1, 3) := by decide +kernel
theorem dX12_thread_81 : decode cX12_thread 81 = .ok (.goto (-49), 3) := by decide +kernel
theorem dX12_thread_84 : decode cX12_thread 84 = .ok (.new 63, 3) := by decide +kernel
theorem dX12_thread_87 : decode cX12_thread 87 = .ok (.dup, 1) := by decide +kernel
theorem dX12_thread_88 : decode cX12_thread 88 = .ok (.ldc 65, 2) := by decide +kernel
theorem dX12_thread_90 : decode cX12_thread 90 = .ok (.invokespecial 67, 3) := by decide +kernel
theorem dX12_thread_93 : decode cX12_thread 93 = .ok (.athrow, 1) := by decide +kernel
theorem dX12_step_0 : decode cX12_step 0 = .ok (.aload_n 0, 1) := by decide +kernel
theorem dX12_step_1 : decode cX12_step 1 = .ok (.iload_n 1, 1) := by decide +kernel
theorem dX12_step_2 : decode cX12_step 2 = .ok (.invokevirtual 108, 3) := by decide +kernel
theorem dX12_step_5 : decode cX12_step 5 = .ok (.astore_n 2, 1) := by decide +kernel
theorem dX12_step_6 : decode cX12_step 6 = .ok (.aload_n 2, 1) := by decide +kernel
theorem dX12_step_7 : decode cX12_step 7 = .ok (.getfield 112, 3) := by decide +kernel
theorem dX12_step_10 : decode cX12_step 10 = .ok (.iconst 1, 1) := by decide +kernel
theorem dX12_step_11 : decode cX12_step 11 = .ok (.if_icmp .ne 8, 3) := by decide +kernel
theorem dX12_step_14 : decode cX12_step 14 = .ok (.aload_n 0, 1) := by decide +kernel
theorem dX12_step_15 : decode cX12_step 15 = .ok (.aload_n 2, 1) := by decide +kernel
theorem dX12_step_16 : decode cX12_step 16 = .ok (.invokevirtual 115, 3) := by decide +kernel
theorem dX12_step_19 : decode cX12_step 19 = .ok (.aload_n 2, 1) := by decide +kernel
theorem dX12_step_20 : decode cX12_step 20 = .ok (.getfield 112, 3) := by decide +kernel
theorem dX12_step_23 : decode cX12_step 23 = .ok (.ireturn, 1) := by decide +kernel
theorem dX12_run_0 : decode cX12_run 0 = .ok (.iload_n 1, 1) := by decide +kernel
theorem dX12_run_1 : decode cX12_run 1 = .ok (.ifCond .lt 19, 3) := by decide +kernel
theorem dX12_run_4 : decode cX12_run 4 = .ok (.iload_n 1, 1) := by decide +kernel
theorem dX12_run_5 : decode cX12_run 5 = .ok (.iconst 2, 1) := by decide +kernel
theorem dX12_run_6 : decode cX12_run 6 = .ok (.if_icmp .gt 14, 3) := by decide +kernel
theorem dX12_run_9 : decode cX12_run 9 = .ok (.iload_n 3, 1) := by decide +kernel
theorem dX12_run_10 : decode cX12_run 10 = .ok (.ifCond .lt 10, 3) := by decide +kernel
theorem dX12_run_13 : decode cX12_run 13 = .ok (.iload_n 3, 1) := by decide +kernel
theorem dX12_run_14 : decode cX12_run 14 = .ok (.sipush 4000, 3) := by decide +kernel
theorem dX12_run_17 : decode cX12_run 17 = .ok (.if_icmp .le 13, 3) := by decide +kernel
theorem dX12_run_20 : decode cX12_run 20 = .ok (.new 48, 3) := by decide +kernel
theorem dX12_run_23 : decode cX12_run 23 = .ok (.dup, 1) := by decide +kernel
theorem dX12_run_24 : decode cX12_run 24 = .ok (.ldc 119, 2) := by decide +kernel
theorem dX12_run_26 : decode cX12_run 26 = .ok (.invokespecial 52, 3) := by decide +kernel
theorem dX12_run_29 : decode cX12_run 29 = .ok (.athrow, 1) := by decide +kernel
theorem dX12_run_30 : decode cX12_run 30 = .ok (.iload_n 2, 1) := by decide +kernel
theorem dX12_run_31 : decode cX12_run 31 = .ok (.istore 4, 2) := by decide +kernel
theorem dX12_run_33 : decode cX12_run 33 = .ok (.iconst 0, 1) := by decide +kernel
theorem dX12_run_34 : decode cX12_run 34 = .ok (.istore 5, 2) := by decide +kernel
theorem dX12_run_36 : decode cX12_run 36 = .ok (.iload 5, 2) := by decide +kernel
theorem dX12_run_38 : decode cX12_run 38 = .ok (.iload_n 3, 1) := by decide +kernel
theorem dX12_run_39 : decode cX12_run 39 = .ok (.if_icmp .ge 77, 3) := by decide +kernel
theorem dX12_run_42 : decode cX12_run 42 = .ok (.aload_n 0, 1) := by decide +kernel
theorem dX12_run_43 : decode cX12_run 43 = .ok (.invokevirtual 121, 3) := by decide +kernel
theorem dX12_run_46 : decode cX12_run 46 = .ok (.istore 6, 2) := by decide +kernel
theorem dX12_run_48 : decode cX12_run 48 = .ok (.iload 6, 2) := by decide +kernel
theorem dX12_run_50 : decode cX12_run 50 = .ok (.iconst 1, 1) := by decide +kernel
theorem dX12_run_51 : decode cX12_run 51 = .ok (.if_icmp .ge 6, 3) := by decide +kernel
theorem dX12_run_54 : decode cX12_run 54 = .ok (.iload 5, 2) := by decide +kernel
theorem dX12_run_56 : decode cX12_run 56 = .ok (.ireturn, 1) := by decide +kernel
theorem dX12_run_57 : decode cX12_run 57 = .ok (.iconst 0, 1) := by decide +kernel
theorem dX12_run_58 : decode cX12_run 58 = .ok (.istore 7, 2) := by decide +kernel
theorem dX12_run_60 : decode cX12_run 60 = .ok (.iload_n 1, 1) := by decide +kernel
theorem dX12_run_61 : decode cX12_run 61 = .ok (.ifCond .ne 24, 3) := by decide +kernel
theorem dX12_run_64 : decode cX12_run 64 = .ok (.iload 4, 2) := by decide +kernel
theorem dX12_run_66 : decode cX12_run 66 = .ok (.ldc 124, 2) := by decide +kernel
theorem dX12_run_68 : decode cX12_run 68 = .ok (.imul, 1) := by decide +kernel
theorem dX12_run_69 : decode cX12_run 69 = .ok (.sipush 12345, 3) := by decide +kernel
theorem dX12_run_72 : decode cX12_run 72 = .ok (.iadd, 1) := by decide +kernel
theorem dX12_run_73 : decode cX12_run 73 = .ok (.istore 4, 2) := by decide +kernel
theorem dX12_run_75 : decode cX12_run 75 = .ok (.iload 4, 2) := by decide +kernel
theorem dX12_run_77 : decode cX12_run 77 = .ok (.bipush 8, 2) := by decide +kernel
theorem dX12_run_79 : decode cX12_run 79 = .ok (.iushr, 1) := by decide +kernel
theorem dX12_run_80 : decode cX12_run 80 = .ok (.iload 6, 2) := by decide +kernel
theorem dX12_run_82 : decode cX12_run 82 = .ok (.irem, 1) := by decide +kernel
theorem dX12_run_83 : decode cX12_run 83 = .ok (.istore 7, 2) := by decide +kernel
theorem dX12_run_85 : decode cX12_run 85 = .ok (.aload_n 0, 1) := by decide +kernel
theorem dX12_run_86 : decode cX12_run 86 = .ok (.aload_n 0, 1) := by decide +kernel
theorem dX12_run_87 : decode cX12_run 87 = .ok (.iload_n 1, 1) := by decide +kernel
theorem dX12_run_88 : decode cX12_run 88 = .ok (.iconst 2, 1) := by decide +kernel
theorem dX12_run_89 : decode cX12_run 89 = .ok (.if_icmp .ne 12, 3) := by decide +kernel
theorem dX12_run_92 : decode cX12_run 92 = .ok (.aload_n 0, 1) := by decide +kernel
theorem dX12_run_93 : decode cX12_run 93 = .ok (.getfield 28, 3) := by decide +kernel
theorem dX12_run_96 : decode cX12_run 96 = .ok (.iconst 1, 1) := by decide +kernel
theorem dX12_run_97 : decode cX12_run 97 = .ok (.iadd, 1) := by decide +kernel
theorem dX12_run_98 : decode cX12_run 98 = .ok (.goto 4, 3) := by decide +kernel
theorem dX12_run_101 : decode cX12_run 101 = .ok (.iconst 0, 1) := by decide +kernel
theorem dX12_run_102 : decode cX12_run 102 = .ok (.iload 7, 2) := by decide +kernel
theorem dX12_run_104 : decode cX12_run 104 = .ok (.invokevirtual 125, 3) := by decide +kernel
theorem dX12_run_107 : decode cX12_run 107 = .ok (.invokevirtual 115, 3) := by decide +kernel
theorem dX12_run_110 : decode cX12_run 110 = .ok (.iinc 5 1, 3) := by decide +kernel
theorem dX12_run_113 : decode cX12_run 113 = .ok (.goto (-77), 3) := by decide +kernel
theorem dX12_run_116 : decode cX12_run 116 = .ok (.iload_n 3, 1) := by decide +kernel
theorem dX12_run_117 : decode cX12_run 117 = .ok (.ireturn, 1) := by decide +kernel
theorem dX12_tick_0 : decode cX12_tick 0 = .ok (.iload_n 1, 1) := by decide +kernel
theorem dX12_tick_1 : decode cX12_tick 1 = .ok (.ifCond .ge 13, 3) := by decide +kernel
theorem dX12_tick_4 : decode cX12_tick 4 = .ok (.new 48, 3) := by decide +kernel
theorem dX12_tick_7 : decode cX12_tick 7 = .ok (.dup, 1) := by decide +kernel
theorem dX12_tick_8 : decode cX12_tick 8 = .ok (.ldc 50, 2) := by decide +kernel
theorem dX12_tick_10 : decode cX12_tick 10 = .ok (.invokespecial 52, 3) := by decide +kernel
theorem dX12_tick_13 : decode cX12_tick 13 = .ok (.athrow, 1) := by decide +kernel
theorem dX12_tick_14 : decode cX12_tick 14 = .ok (.aload_n 0, 1) := by decide +kernel
theorem dX12_tick_15 : decode cX12_tick 15 = .ok (.dup, 1) := by decide +kernel
theorem dX12_tick_16 : decode cX12_tick 16 = .ok (.getfield 129, 3) := by decide +kernel
theorem dX12_tick_19 : decode cX12_tick 19 = .ok (.iload_n 1, 1) := by decide +kernel
theorem dX12_tick_20 : decode cX12_tick 20 = .ok (.i2l, 1) := by decide +kernel
theorem dX12_tick_21 : decode cX12_tick 21 = .ok (.ladd, 1) := by decide +kernel
theorem dX12_tick_22 : decode cX12_tick 22 = .ok (.putfield 129, 3) := by decide +kernel
theorem dX12_tick_25 : decode cX12_tick 25 = .ok (.iconst 0, 1) := by decide +kernel
theorem dX12_tick_26 : decode cX12_tick 26 = .ok (.istore_n 2, 1) := by decide +kernel
theorem dX12_tick_27 : decode cX12_tick 27 = .ok (.aload_n 0, 1) := by decide +kernel
theorem dX12_tick_28 : decode cX12_tick 28 = .ok (.getfield 24, 3) := by decide +kernel
theorem dX12_tick_31 : decode cX12_tick 31 = .ok (.astore_n 3, 1) := by decide +kernel
theorem dX12_tick_32 : decode cX12_tick 32 = .ok (.aload_n 3, 1) := by decide +kernel
theorem dX12_tick_33 : decode cX12_tick 33 = .ok (.arraylength, 1) := by decide +kernel
theorem dX12_tick_34 : decode cX12_tick 34 = .ok (.istore 4, 2) := by decide +kernel
theorem dX12_tick_36 : decode cX12_tick 36 = .ok (.iconst 0, 1) := by decide +kernel
theorem dX12_tick_37 : decode cX12_tick 37 = .ok (.istore 5, 2) := by decide +kernel
theorem dX12_tick_39 : decode cX12_tick 39 = .ok (.iload 5, 2) := by decide +kernel
theorem dX12_tick_41 : decode cX12_tick 41 = .ok (.iload 4, 2) := by decide +kernel
theorem dX12_tick_43 : decode cX12_tick 43 = .ok (.if_icmp .ge 45, 3) := by decide +kernel
theorem dX12_tick_46 : decode cX12_tick 46 = .ok (.aload_n 3, 1) := by decide +kernel
theorem dX12_tick_47 : decode cX12_tick 47 = .ok (.iload 5, 2) := by decide +kernel
theorem dX12_tick_49 : decode cX12_tick 49 = .ok (.aaload, 1) := by decide +kernel
theorem dX12_tick_50 : decode cX12_tick 50 = .ok (.astore 6, 2) := by decide +kernel
theorem dX12_tick_52 : decode cX12_tick 52 = .ok (.aload 6, 2) := by decide +kernel
theorem dX12_tick_54 : decode cX12_tick 54 = .ok (.getfield 112, 3) := by decide +kernel
theorem dX12_tick_57 : decode cX12_tick 57 = .ok (.iconst 3, 1) := by decide +kernel
theorem dX12_tick_58 : decode cX12_tick 58 = .ok (.if_icmp .ne 24, 3) := by decide +kernel
theorem dX12_tick_61 : decode cX12_tick 61 = .ok (.aload 6, 2) := by decide +kernel
theorem dX12_tick_63 : decode cX12_tick 63 = .ok (.getfield 133, 3) := by decide +kernel
theorem dX12_tick_66 : decode cX12_tick 66 = .ok (.aload_n 0, 1) := by decide +kernel
theorem dX12_tick_67 : decode cX12_tick 67 = .ok (.getfield 129, 3) := by decide +kernel
theorem dX12_tick_70 : decode cX12_tick 70 = .ok (.lcmp, 1) := by decide +kernel
theorem dX12_tick_71 : decode cX12_tick 71 = .ok (.ifCond .gt 11, 3) := by decide +kernel
theorem dX12_tick_74 : decode cX12_tick 74 = .ok (.aload 6, 2) := by decide +kernel
theorem dX12_tick_76 : decode cX12_tick 76 = .ok (.invokevirtual 136, 3) := by decide +kernel
theorem dX12_tick_79 : decode cX12_tick 79 = .ok (.iinc 2 1, 3) := by decide +kernel
theorem dX12_tick_82 : decode cX12_tick 82 = .ok (.iinc 5 1, 3) := by decide +kernel
theorem dX12_tick_85 : decode cX12_tick 85 = .ok (.goto (-46), 3) := by decide +kernel
theorem dX12_tick_88 : decode cX12_tick 88 = .ok (.iload_n 2, 1) := by decide +kernel
theorem dX12_tick_89 : decode cX12_tick 89 = .ok (.ireturn, 1) := by decide +kernel
theorem dX12_interrupt_0 : decode cX12_interrupt 0 = .ok (.aload_n 0, 1) := by decide +kernel
theorem dX12_interrupt_1 : decode cX12_interrupt 1 = .ok (.iload_n 1, 1) := by decide +kernel
theorem dX12_interrupt_2 : decode cX12_interrupt 2 = .ok (.invokevirtual 108, 3) := by decide +kernel
theorem dX12_interrupt_5 : decode cX12_interrupt 5 = .ok (.astore_n 2, 1) := by decide +kernel
theorem dX12_interrupt_6 : decode cX12_interrupt 6 = .ok (.aload_n 2, 1) := by decide +kernel
theorem dX12_interrupt_7 : decode cX12_interrupt 7 = .ok (.getfield 112, 3) := by decide +kernel
theorem dX12_interrupt_10 : decode cX12_interrupt 10 = .ok (.iconst 1, 1) := by decide +kernel
theorem dX12_interrupt_11 : decode cX12_interrupt 11 = .ok (.if_icmp .ne 10, 3) := by decide +kernel
theorem dX12_interrupt_14 : decode cX12_interrupt 14 = .ok (.aload_n 2, 1) := by decide +kernel
theorem dX12_interrupt_15 : decode cX12_interrupt 15 = .ok (.iconst 1, 1) := by decide +kernel
theorem dX12_interrupt_16 : decode cX12_interrupt 16 = .ok (.putfield 139, 3) := by decide +kernel
theorem dX12_interrupt_19 : decode cX12_interrupt 19 = .ok (.iconst 1, 1) := by decide +kernel
theorem dX12_interrupt_20 : decode cX12_interrupt 20 = .ok (.ireturn, 1) := by decide +kernel
theorem dX12_interrupt_21 : decode cX12_interrupt 21 = .ok (.aload_n 2, 1) := by decide +kernel
theorem dX12_interrupt_22 : decode cX12_interrupt 22 = .ok (.getfield 112, 3) := by decide +kernel
theorem dX12_interrupt_25 : decode cX12_interrupt 25 = .ok (.iconst 2, 1) := by decide +kernel
theorem dX12_interrupt_26 : decode cX12_interrupt 26 = .ok (.if_icmp .eq 13, 3) := by decide +kernel
theorem dX12_interrupt_29 : decode cX12_interrupt 29 = .ok (.aload_n 2, 1) := by decide +kernel
theorem dX12_interrupt_30 : decode cX12_interrupt 30 = .ok (.getfield 112, 3) := by decide +kernel
theorem dX12_interrupt_33 : decode cX12_interrupt 33 = .ok (.iconst 3, 1) := by decide +kernel
theorem dX12_interrupt_34 : decode cX12_interrupt 34 = .ok (.if_icmp .eq 5, 3) := by decide +kernel
theorem dX12_interrupt_37 : decode cX12_interrupt 37 = .ok (.iconst 0, 1) := by decide +kernel
theorem dX12_interrupt_38 : decode cX12_interrupt 38 = .ok (.ireturn, 1) := by decide +kernel
theorem dX12_interrupt_39 : decode cX12_interrupt 39 = .ok (.aload_n 2, 1) := by decide +kernel
theorem dX12_interrupt_40 : decode cX12_interrupt 40 = .ok (.getfield 143, 3) := by decide +kernel
theorem dX12_interrupt_43 : decode cX12_interrupt 43 = .ok (.astore 4, 2) := by decide +kernel
theorem dX12_interrupt_45 : decode cX12_interrupt 45 = .ok (.aload 4, 2) := by decide +kernel
theorem dX12_interrupt_47 : decode cX12_interrupt 47 = .ok (.instanceof 147, 3) := by decide +kernel
theorem dX12_interrupt_50 : decode cX12_interrupt 50 = .ok (.ifCond .eq 24, 3) := by decide +kernel
theorem dX12_interrupt_53 : decode cX12_interrupt 53 = .ok (.aload 4, 2) := by decide +kernel
theorem dX12_interrupt_55 : decode cX12_interrupt 55 = .ok (.checkcast 147, 3) := by decide +kernel
theorem dX12_interrupt_58 : decode cX12_interrupt 58 = .ok (.astore_n 3, 1) := by decide +kernel
theorem dX12_interrupt_59 : decode cX12_interrupt 59 = .ok (.aload_n 2, 1) := by decide +kernel
theorem dX12_interrupt_60 : decode cX12_interrupt 60 = .ok (.getfield 149, 3) := by decide +kernel
theorem dX12_interrupt_63 : decode cX12_interrupt 63 = .ok (.ifCond .le 11, 3) := by decide +kernel
theorem dX12_interrupt_66 : decode cX12_interrupt 66 = .ok (.aload_n 3, 1) := by decide +kernel
theorem dX12_interrupt_67 : decode cX12_interrupt 67 = .ok (.aload_n 2, 1) := by decide +kernel
theorem dX12_interrupt_68 : decode cX12_interrupt 68 = .ok (.invokevirtual 152, 3) := by decide +kernel
theorem dX12_interrupt_71 : decode cX12_interrupt 71 = .ok (.goto 9, 3) := by decide +kernel
theorem dX12_interrupt_74 : decode cX12_interrupt 74 = .ok (.aload_n 2, 1) := by decide +kernel
theorem dX12_interrupt_75 : decode cX12_interrupt 75 = .ok (.bipush (-2), 2) := by decide +kernel
theorem dX12_interrupt_77 : decode cX12_interrupt 77 = .ok (.invokevirtual 155, 3) := by decide +kernel
theorem dX12_interrupt_80 : decode cX12_interrupt 80 = .ok (.iconst 1, 1) := by decide +kernel
theorem dX12_interrupt_81 : decode cX12_interrupt 81 = .ok (.ireturn, 1) := by decide +kernel
theorem dX12_look_0 : decode cX12_look 0 = .ok (.aload_n 0, 1) := by decide +kernel
theorem dX12_look_1 : decode cX12_look 1 = .ok (.iload_n 1, 1) := by decide +kernel
theorem dX12_look_2 : decode cX12_look 2 = .ok (.invokevirtual 108, 3) := by decide +kernel
theorem dX12_look_5 : decode cX12_look 5 = .ok (.astore_n 3, 1) := by decide +kernel
theorem dX12_look_6 : decode cX12_look 6 = .ok (.iload_n 2, 1) := by decide +kernel
theorem dX12_look_7 : decode cX12_look 7 = .ok (.ifCond .lt 8, 3) := by decide +kernel
theorem dX12_look_10 : decode cX12_look 10 = .ok (.iload_n 2, 1) := by decide +kernel
theorem dX12_look_11 : decode cX12_look 11 = .ok (.iconst 5, 1) := by decide +kernel
theorem dX12_look_12 : decode cX12_look 12 = .ok (.if_icmp .le 13, 3) := by decide +kernel
theorem dX12_look_15 : decode cX12_look 15 = .ok (.new 48, 3) := by decide +kernel
theorem dX12_look_18 : decode cX12_look 18 = .ok (.dup, 1) := by decide +kernel
theorem dX12_look_19 : decode cX12_look 19 = .ok (.ldc 158, 2) := by decide +kernel
theorem dX12_look_21 : decode cX12_look 21 = .ok (.invokespecial 52, 3) := by decide +kernel
theorem dX12_look_24 : decode cX12_look 24 = .ok (.athrow, 1) := by decide +kernel
theorem dX12_look_25 : decode cX12_look 25 = .ok (.iload_n 2, 1) := by decide +kernel
theorem dX12_look_26 : decode cX12_look 26 = .ok (.tableswitch 108 0 4 #[34, 39, 44, 68, 95], 34) := by decide +kernel
theorem dX12_look_60 : decode cX12_look 60 = .ok (.aload_n 3, 1) := by decide +kernel
theorem dX12_look_61 : decode cX12_look 61 = .ok (.getfield 112, 3) := by decide +kernel
theorem dX12_look_64 : decode cX12_look 64 = .ok (.ireturn, 1) := by decide +kernel
theorem dX12_look_65 : decode cX12_look 65 = .ok (.aload_n 3, 1) := by decide +kernel
theorem dX12_look_66 : decode cX12_look 66 = .ok (.getfield 160, 3) := by decide +kernel
theorem dX12_look_69 : decode cX12_look 69 = .ok (.ireturn, 1) := by decide +kernel
theorem dX12_look_70 : decode cX12_look 70 = .ok (.aload_n 3, 1) := by decide +kernel
theorem dX12_look_71 : decode cX12_look 71 = .ok (.getfield 112, 3) := by decide +kernel
theorem dX12_look_74 : decode cX12_look 74 = .ok (.ifCond .eq 11, 3) := by decide +kernel
theorem dX12_look_77 : decode cX12_look 77 = .ok (.aload_n 3, 1) := by decide +kernel
theorem dX12_look_78 : decode cX12_look 78 = .ok (.getfield 112, 3) := by decide +kernel
theorem dX12_look_81 : decode cX12_look 81 = .ok (.iconst 4, 1) := by decide +kernel
theorem dX12_look_82 : decode cX12_look 82 = .ok (.if_icmp .ne 7, 3) := by decide +kernel
theorem dX12_look_85 : decode cX12_look 85 = .ok (.iconst (-1), 1) := by decide +kernel
theorem dX12_look_86 : decode cX12_look 86 = .ok (.goto 7, 3) := by decide +kernel
theorem dX12_look_89 : decode cX12_look 89 = .ok (.aload_n 3, 1) := by decide +kernel
theorem dX12_look_90 : decode cX12_look 90 = .ok (.getfield 163, 3) := by decide +kernel
theorem dX12_look_93 : decode cX12_look 93 = .ok (.ireturn, 1) := by decide +kernel
theorem dX12_look_94 : decode cX12_look 94 = .ok (.aload_n 3, 1) := by decide +kernel
theorem dX12_look_95 : decode cX12_look 95 = .ok (.getfield 112, 3) := by decide +kernel
theorem dX12_look_98 : decode cX12_look 98 = .ok (.iconst 2, 1) := by decide +kernel
theorem dX12_look_99 : decode cX12_look 99 = .ok (.if_icmp .ne 20, 3) := by decide +kernel
theorem dX12_look_102 : decode cX12_look 102 = .ok (.aload_n 3, 1) := by decide +kernel
theorem dX12_look_103 : decode cX12_look 103 = .ok (.getfield 143, 3) := by decide +kernel
theorem dX12_look_106 : decode cX12_look 106 = .ok (.ifnull 13, 3) := by decide +kernel
theorem dX12_look_109 : decode cX12_look 109 = .ok (.aload_n 3, 1) := by decide +kernel
theorem dX12_look_110 : decode cX12_look 110 = .ok (.getfield 143, 3) := by decide +kernel
theorem dX12_look_113 : decode cX12_look 113 = .ok (.getfield 166, 3) := by decide +kernel
theorem dX12_look_116 : decode cX12_look 116 = .ok (.goto 4, 3) := by decide +kernel
theorem dX12_look_119 : decode cX12_look 119 = .ok (.iconst (-1), 1) := by decide +kernel
theorem dX12_look_120 : decode cX12_look 120 = .ok (.ireturn, 1) := by decide +kernel
theorem dX12_look_121 : decode cX12_look 121 = .ok (.aload_n 3, 1) := by decide +kernel
theorem dX12_look_122 : decode cX12_look 122 = .ok (.getfield 139, 3) := by decide +kernel
theorem dX12_look_125 : decode cX12_look 125 = .ok (.ifCond .eq 7, 3) := by decide +kernel
theorem dX12_look_128 : decode cX12_look 128 = .ok (.iconst 1, 1) := by decide +kernel
theorem dX12_look_129 : decode cX12_look 129 = .ok (.goto 4, 3) := by decide +kernel
theorem dX12_look_132 : decode cX12_look 132 = .ok (.iconst 0, 1) := by decide +kernel
theorem dX12_look_133 : decode cX12_look 133 = .ok (.ireturn, 1) := by decide +kernel
theorem dX12_look_134 : decode cX12_look 134 = .ok (.aload_n 3, 1) := by decide +kernel
theorem dX12_look_135 : decode cX12_look 135 = .ok (.getfield 169, 3) := by decide +kernel
theorem dX12_look_138 : decode cX12_look 138 = .ok (.ireturn, 1) := by decide +kernel
theorem dX12_dead_0 : decode cX12_dead 0 = .ok (.iconst 0, 1) := by decide +kernel
theorem dX12_dead_1 : decode cX12_dead 1 = .ok (.istore_n 1, 1) := by decide +kernel
theorem dX12_dead_2 : decode cX12_dead 2 = .ok (.iload_n 1, 1) := by decide +kernel
theorem dX12_dead_3 : decode cX12_dead 3 = .ok (.bipush 8, 2) := by decide +kernel
theorem dX12_dead_5 : decode cX12_dead 5 = .ok (.if_icmp .ge 47, 3) := by decide +kernel
theorem dX12_dead_8 : decode cX12_dead 8 = .ok (.aload_n 0, 1) := by decide +kernel
theorem dX12_dead_9 : decode cX12_dead 9 = .ok (.iload_n 1, 1) := by decide +kernel
theorem dX12_dead_10 : decode cX12_dead 10 = .ok (.invokevirtual 172, 3) := by decide +kernel
theorem dX12_dead_13 : decode cX12_dead 13 = .ok (.istore_n 2, 1) := by decide +kernel
theorem dX12_dead_14 : decode cX12_dead 14 = .ok (.iconst 1, 1) := by decide +kernel
theorem dX12_dead_15 : decode cX12_dead 15 = .ok (.istore_n 3, 1) := by decide +kernel
theorem dX12_dead_16 : decode cX12_dead 16 = .ok (.iload_n 3, 1) := by decide +kernel
theorem dX12_dead_17 : decode cX12_dead 17 = .ok (.bipush 8, 2) := by decide +kernel
theorem dX12_dead_19 : decode cX12_dead 19 = .ok (.if_icmp .ge 20, 3) := by decide +kernel
theorem dX12_dead_22 : decode cX12_dead 22 = .ok (.iload_n 2, 1) := by decide +kernel
theorem dX12_dead_23 : decode cX12_dead 23 = .ok (.iload_n 1, 1) := by decide +kernel
theorem dX12_dead_24 : decode cX12_dead 24 = .ok (.if_icmp .eq 15, 3) := by decide +kernel
theorem dX12_dead_27 : decode cX12_dead 27 = .ok (.aload_n 0, 1) := by decide +kernel
theorem dX12_dead_28 : decode cX12_dead 28 = .ok (.iload_n 2, 1) := by decide +kernel
theorem dX12_dead_29 : decode cX12_dead 29 = .ok (.invokevirtual 172, 3) := by decide +kernel
theorem dX12_dead_32 : decode cX12_dead 32 = .ok (.istore_n 2, 1) := by decide +kernel
theorem dX12_dead_33 : decode cX12_dead 33 = .ok (.iinc 3 1, 3) := by decide +kernel
theorem dX12_dead_36 : decode cX12_dead 36 = .ok (.goto (-20), 3) := by decide +kernel
theorem dX12_dead_39 : decode cX12_dead 39 = .ok (.iload_n 2, 1) := by decide +kernel
theorem dX12_dead_40 : decode cX12_dead 40 = .ok (.iload_n 1, 1) := by decide +kernel
theorem dX12_dead_41 : decode cX12_dead 41 = .ok (.if_icmp .ne 5, 3) := by decide +kernel
theorem dX12_dead_44 : decode cX12_dead 44 = .ok (.iload_n 1, 1) := by decide +kernel
theorem dX12_dead_45 : decode cX12_dead 45 = .ok (.ireturn, 1) := by decide +kernel
theorem dX12_dead_46 : decode cX12_dead 46 = .ok (.iinc 1 1, 3) := by decide +kernel
theorem dX12_dead_49 : decode cX12_dead 49 = .ok (.goto (-47), 3) := by decide +kernel
theorem dX12_dead_52 : decode cX12_dead 52 = .ok (.iconst (-1), 1) := by decide +kernel
theorem dX12_dead_53 : decode cX12_dead 53 = .ok (.ireturn, 1) := by decide +kernel
theorem dX12_sync_0 : decode cX12_sync 0 = .ok (.aload_n 0, 1) := by decide +kernel
theorem dX12_sync_1 : decode cX12_sync 1 = .ok (.iload_n 1, 1) := by decide +kernel
theorem dX12_sync_2 : decode cX12_sync 2 = .ok (.invokevirtual 176, 3) := by decide +kernel
theorem dX12_sync_5 : decode cX12_sync 5 = .ok (.astore_n 3, 1) := by decide +kernel
theorem dX12_sync_6 : decode cX12_sync 6 = .ok (.aload_n 3, 1) := by decide +kernel
theorem dX12_sync_7 : decode cX12_sync 7 = .ok (.ifnonnull 13, 3) := by decide +kernel
theorem dX12_sync_10 : decode cX12_sync 10 = .ok (.new 72, 3) := by decide +kernel
theorem dX12_sync_13 : decode cX12_sync 13 = .ok (.dup, 1) := by decide +kernel
theorem dX12_sync_14 : decode cX12_sync 14 = .ok (.ldc 74, 2) := by decide +kernel
theorem dX12_sync_16 : decode cX12_sync 16 = .ok (.invokespecial 76, 3) := by decide +kernel
theorem dX12_sync_19 : decode cX12_sync 19 = .ok (.athrow, 1) := by decide +kernel
theorem dX12_sync_20 : decode cX12_sync 20 = .ok (.iload_n 2, 1) := by decide +kernel
theorem dX12_sync_21 : decode cX12_sync 21 = .ok (.ifCond .lt 8, 3) := by decide +kernel
theorem dX12_sync_24 : decode cX12_sync 24 = .ok (.iload_n 2, 1) := by decide +kernel
theorem dX12_sync_25 : decode cX12_sync 25 = .ok (.iconst 4, 1) := by decide +kernel
theorem dX12_sync_26 : decode cX12_sync 26 = .ok (.if_icmp .le 13, 3) := by decide +kernel
theorem dX12_sync_29 : decode cX12_sync 29 = .ok (.new 48, 3) := by decide +kernel
theorem dX12_sync_32 : decode cX12_sync 32 = .ok (.dup, 1) := by decide +kernel
theorem dX12_sync_33 : decode cX12_sync 33 = .ok (.ldc 158, 2) := by decide +kernel
theorem dX12_sync_35 : decode cX12_sync 35 = .ok (.invokespecial 52, 3) := by decide +kernel
theorem dX12_sync_38 : decode cX12_sync 38 = .ok (.athrow, 1) := by decide +kernel
theorem dX12_sync_39 : decode cX12_sync 39 = .ok (.aload_n 3, 1) := by decide +kernel
theorem dX12_sync_40 : decode cX12_sync 40 = .ok (.iload_n 2, 1) := by decide +kernel
theorem dX12_sync_41 : decode cX12_sync 41 = .ok (.invokevirtual 180, 3) := by decide +kernel
theorem dX12_sync_44 : decode cX12_sync 44 = .ok (.ifCond .ne 13, 3) := by decide +kernel
theorem dX12_sync_47 : decode cX12_sync 47 = .ok (.new 89, 3) := by decide +kernel
theorem dX12_sync_50 : decode cX12_sync 50 = .ok (.dup, 1) := by decide +kernel
theorem dX12_sync_51 : decode cX12_sync 51 = .ok (.ldc 184, 2) := by decide +kernel
theorem dX12_sync_53 : decode cX12_sync 53 = .ok (.invokespecial 93, 3) := by decide +kernel
theorem dX12_sync_56 : decode cX12_sync 56 = .ok (.athrow, 1) := by decide +kernel
theorem dX12_sync_57 : decode cX12_sync 57 = .ok (.iload_n 2, 1) := by decide +kernel
theorem dX12_sync_58 : decode cX12_sync 58 = .ok (.lookupswitch 40 #[(0, 26), (1, 31)], 26) := by decide +kernel
theorem dX12_sync_84 : decode cX12_sync 84 = .ok (.aload_n 3, 1) := by decide +kernel
theorem dX12_sync_85 : decode cX12_sync 85 = .ok (.invokevirtual 186, 3) := by decide +kernel
theorem dX12_sync_88 : decode cX12_sync 88 = .ok (.lreturn, 1) := by decide +kernel
theorem dX12_sync_89 : decode cX12_sync 89 = .ok (.aload_n 3, 1) := by decide +kernel
theorem dX12_sync_90 : decode cX12_sync 90 = .ok (.getfield 190, 3) := by decide +kernel
theorem dX12_sync_93 : decode cX12_sync 93 = .ok (.getfield 194, 3) := by decide +kernel
theorem dX12_sync_96 : decode cX12_sync 96 = .ok (.i2l, 1) := by decide +kernel
theorem dX12_sync_97 : decode cX12_sync 97 = .ok (.lreturn, 1) := by decide +kernel
theorem dX12_sync_98 : decode cX12_sync 98 = .ok (.aload_n 3, 1) := by decide +kernel
theorem dX12_sync_99 : decode cX12_sync 99 = .ok (.iload_n 2, 1) := by decide +kernel
theorem dX12_sync_100 : decode cX12_sync 100 = .ok (.invokevirtual 197, 3) := by decide +kernel
theorem dX12_sync_103 : decode cX12_sync 103 = .ok (.lreturn, 1) := by decide +kernel
theorem dX12_count_0 : decode cX12_count 0 = .ok (.iload_n 1, 1) := by decide +kernel
theorem dX12_count_1 : decode cX12_count 1 = .ok (.bipush 10, 2) := by decide +kernel
theorem dX12_count_3 : decode cX12_count 3 = .ok (.if_icmp .lt 34, 3) := by decide +kernel
theorem dX12_count_6 : decode cX12_count 6 = .ok (.iload_n 1, 1) := by decide +kernel
theorem dX12_count_7 : decode cX12_count 7 = .ok (.bipush 34, 2) := by decide +kernel
theorem dX12_count_9 : decode cX12_count 9 = .ok (.if_icmp .ge 28, 3) := by decide +kernel
theorem dX12_count_12 : decode cX12_count 12 = .ok (.aload_n 0, 1) := by decide +kernel
theorem dX12_count_13 : decode cX12_count 13 = .ok (.iload_n 1, 1) := by decide +kernel
theorem dX12_count_14 : decode cX12_count 14 = .ok (.bipush 10, 2) := by decide +kernel
theorem dX12_count_16 : decode cX12_count 16 = .ok (.isub, 1) := by decide +kernel
theorem dX12_count_17 : decode cX12_count 17 = .ok (.invokevirtual 176, 3) := by decide +kernel
theorem dX12_count_20 : decode cX12_count 20 = .ok (.astore_n 2, 1) := by decide +kernel
theorem dX12_count_21 : decode cX12_count 21 = .ok (.aload_n 2, 1) := by decide +kernel
theorem dX12_count_22 : decode cX12_count 22 = .ok (.ifnonnull 9, 3) := by decide +kernel
theorem dX12_count_25 : decode cX12_count 25 = .ok (.ldc2_w 201, 3) := by decide +kernel
theorem dX12_count_28 : decode cX12_count 28 = .ok (.goto 8, 3) := by decide +kernel
theorem dX12_count_31 : decode cX12_count 31 = .ok (.aload_n 2, 1) := by decide +kernel
theorem dX12_count_32 : decode cX12_count 32 = .ok (.getfield 203, 3) := by decide +kernel
theorem dX12_count_35 : decode cX12_count 35 = .ok (.i2l, 1) := by decide +kernel
theorem dX12_count_36 : decode cX12_count 36 = .ok (.lreturn, 1) := by decide +kernel
theorem dX12_count_37 : decode cX12_count 37 = .ok (.iload_n 1, 1) := by decide +kernel
theorem dX12_count_38 : decode cX12_count 38 = .ok (.tableswitch 68 0 4 #[34, 43, 49, 58, 63], 34) := by decide +kernel
theorem dX12_count_72 : decode cX12_count 72 = .ok (.aload_n 0, 1) := by decide +kernel
theorem dX12_count_73 : decode cX12_count 73 = .ok (.getfield 10, 3) := by decide +kernel
theorem dX12_count_76 : decode cX12_count 76 = .ok (.getfield 35, 3) := by decide +kernel
theorem dX12_count_79 : decode cX12_count 79 = .ok (.i2l, 1) := by decide +kernel
theorem dX12_count_80 : decode cX12_count 80 = .ok (.lreturn, 1) := by decide +kernel
theorem dX12_count_81 : decode cX12_count 81 = .ok (.aload_n 0, 1) := by decide +kernel
theorem dX12_count_82 : decode cX12_count 82 = .ok (.invokevirtual 83, 3) := by decide +kernel
theorem dX12_count_85 : decode cX12_count 85 = .ok (.i2l, 1) := by decide +kernel
theorem dX12_count_86 : decode cX12_count 86 = .ok (.lreturn, 1) := by decide +kernel
theorem dX12_count_87 : decode cX12_count 87 = .ok (.aload_n 0, 1) := by decide +kernel
theorem dX12_count_88 : decode cX12_count 88 = .ok (.getfield 10, 3) := by decide +kernel
theorem dX12_count_91 : decode cX12_count 91 = .ok (.getfield 206, 3) := by decide +kernel
theorem dX12_count_94 : decode cX12_count 94 = .ok (.i2l, 1) := by decide +kernel
theorem dX12_count_95 : decode cX12_count 95 = .ok (.lreturn, 1) := by decide +kernel
theorem dX12_count_96 : decode cX12_count 96 = .ok (.aload_n 0, 1) := by decide +kernel
theorem dX12_count_97 : decode cX12_count 97 = .ok (.getfield 129, 3) := by decide +kernel
theorem dX12_count_100 : decode cX12_count 100 = .ok (.lreturn, 1) := by decide +kernel
theorem dX12_count_101 : decode cX12_count 101 = .ok (.aload_n 0, 1) := by decide +kernel
theorem dX12_count_102 : decode cX12_count 102 = .ok (.getfield 209, 3) := by decide +kernel
theorem dX12_count_105 : decode cX12_count 105 = .ok (.lreturn, 1) := by decide +kernel
theorem dX12_count_106 : decode cX12_count 106 = .ok (.new 48, 3) := by decide +kernel
theorem dX12_count_109 : decode cX12_count 109 = .ok (.dup, 1) := by decide +kernel
theorem dX12_count_110 : decode cX12_count 110 = .ok (.ldc 158, 2) := by decide +kernel
theorem dX12_count_112 : decode cX12_count 112 = .ok (.invokespecial 52, 3) := by decide +kernel
theorem dX12_count_115 : decode cX12_count 115 = .ok (.athrow, 1) := by decide +kernel
theorem dX12_fits_0 : decode cX12_fits 0 = .ok (.iload_n 0, 1) := by decide +kernel
theorem dX12_fits_1 : decode cX12_fits 1 = .ok (.tableswitch 94 0 4 #[35, 94, 50, 60, 77], 35) := by decide +kernel
theorem dX12_fits_36 : decode cX12_fits 36 = .ok (.iload_n 1, 1) := by decide +kernel
theorem dX12_fits_37 : decode cX12_fits 37 = .ok (.ifCond .eq 8, 3) := by decide +kernel
theorem dX12_fits_40 : decode cX12_fits 40 = .ok (.iload_n 1, 1) := by decide +kernel
theorem dX12_fits_41 : decode cX12_fits 41 = .ok (.iconst 1, 1) := by decide +kernel
theorem dX12_fits_42 : decode cX12_fits 42 = .ok (.if_icmp .ne 7, 3) := by decide +kernel
theorem dX12_fits_45 : decode cX12_fits 45 = .ok (.iconst 1, 1) := by decide +kernel
theorem dX12_fits_46 : decode cX12_fits 46 = .ok (.goto 4, 3) := by decide +kernel
theorem dX12_fits_49 : decode cX12_fits 49 = .ok (.iconst 0, 1) := by decide +kernel
theorem dX12_fits_50 : decode cX12_fits 50 = .ok (.ireturn, 1) := by decide +kernel
theorem dX12_fits_51 : decode cX12_fits 51 = .ok (.iload_n 1, 1) := by decide +kernel
theorem dX12_fits_52 : decode cX12_fits 52 = .ok (.ifCond .lt 7, 3) := by decide +kernel
theorem dX12_fits_55 : decode cX12_fits 55 = .ok (.iconst 1, 1) := by decide +kernel
theorem dX12_fits_56 : decode cX12_fits 56 = .ok (.goto 4, 3) := by decide +kernel
theorem dX12_fits_59 : decode cX12_fits 59 = .ok (.iconst 0, 1) := by decide +kernel
theorem dX12_fits_60 : decode cX12_fits 60 = .ok (.ireturn, 1) := by decide +kernel
theorem dX12_fits_61 : decode cX12_fits 61 = .ok (.iload_n 1, 1) := by decide +kernel
theorem dX12_fits_62 : decode cX12_fits 62 = .ok (.iconst 1, 1) := by decide +kernel
theorem dX12_fits_63 : decode cX12_fits 63 = .ok (.if_icmp .lt 13, 3) := by decide +kernel
theorem dX12_fits_66 : decode cX12_fits 66 = .ok (.iload_n 1, 1) := by decide +kernel
theorem dX12_fits_67 : decode cX12_fits 67 = .ok (.bipush 8, 2) := by decide +kernel
theorem dX12_fits_69 : decode cX12_fits 69 = .ok (.if_icmp .gt 7, 3) := by decide +kernel
theorem dX12_fits_72 : decode cX12_fits 72 = .ok (.iconst 1, 1) := by decide +kernel
theorem dX12_fits_73 : decode cX12_fits 73 = .ok (.goto 4, 3) := by decide +kernel
theorem dX12_fits_76 : decode cX12_fits 76 = .ok (.iconst 0, 1) := by decide +kernel
theorem dX12_fits_77 : decode cX12_fits 77 = .ok (.ireturn, 1) := by decide +kernel
theorem dX12_fits_78 : decode cX12_fits 78 = .ok (.iload_n 1, 1) := by decide +kernel
theorem dX12_fits_79 : decode cX12_fits 79 = .ok (.iconst 1, 1) := by decide +kernel
theorem dX12_fits_80 : decode cX12_fits 80 = .ok (.if_icmp .lt 13, 3) := by decide +kernel
theorem dX12_fits_83 : decode cX12_fits 83 = .ok (.iload_n 1, 1) := by decide +kernel
theorem dX12_fits_84 : decode cX12_fits 84 = .ok (.bipush 100, 2) := by decide +kernel
theorem dX12_fits_86 : decode cX12_fits 86 = .ok (.if_icmp .gt 7, 3) := by decide +kernel
theorem dX12_fits_89 : decode cX12_fits 89 = .ok (.iconst 1, 1) := by decide +kernel
theorem dX12_fits_90 : decode cX12_fits 90 = .ok (.goto 4, 3) := by decide +kernel
theorem dX12_fits_93 : decode cX12_fits 93 = .ok (.iconst 0, 1) := by decide +kernel
theorem dX12_fits_94 : decode cX12_fits 94 = .ok (.ireturn, 1) := by decide +kernel
theorem dX12_fits_95 : decode cX12_fits 95 = .ok (.iload_n 0, 1) := by decide +kernel
theorem dX12_fits_96 : decode cX12_fits 96 = .ok (.ifCond .lt 13, 3) := by decide +kernel
theorem dX12_fits_99 : decode cX12_fits 99 = .ok (.iload_n 0, 1) := by decide +kernel
theorem dX12_fits_100 : decode cX12_fits 100 = .ok (.bipush 7, 2) := by decide +kernel
theorem dX12_fits_102 : decode cX12_fits 102 = .ok (.if_icmp .gt 7, 3) := by decide +kernel
theorem dX12_fits_105 : decode cX12_fits 105 = .ok (.iconst 1, 1) := by decide +kernel
theorem dX12_fits_106 : decode cX12_fits 106 = .ok (.goto 4, 3) := by decide +kernel
theorem dX12_fits_109 : decode cX12_fits 109 = .ok (.iconst 0, 1) := by decide +kernel
theorem dX12_fits_110 : decode cX12_fits 110 = .ok (.ireturn, 1) := by decide +kernel
theorem dX12_built_0 : decode cX12_built 0 = .ok (.iload_n 1, 1) := by decide +kernel
theorem dX12_built_1 : decode cX12_built 1 = .ok (.tableswitch 119 0 7 #[47, 66, 119, 119, 76, 86, 98, 110], 47) := by decide +kernel
theorem dX12_built_48 : decode cX12_built 48 = .ok (.new 147, 3) := by decide +kernel
theorem dX12_built_51 : decode cX12_built 51 = .ok (.dup, 1) := by decide +kernel
theorem dX12_built_52 : decode cX12_built 52 = .ok (.iload_n 0, 1) := by decide +kernel
theorem dX12_built_53 : decode cX12_built 53 = .ok (.iload_n 2, 1) := by decide +kernel
theorem dX12_built_54 : decode cX12_built 54 = .ok (.iconst 1, 1) := by decide +kernel
theorem dX12_built_55 : decode cX12_built 55 = .ok (.if_icmp .ne 7, 3) := by decide +kernel
theorem dX12_built_58 : decode cX12_built 58 = .ok (.iconst 1, 1) := by decide +kernel
theorem dX12_built_59 : decode cX12_built 59 = .ok (.goto 4, 3) := by decide +kernel
theorem dX12_built_62 : decode cX12_built 62 = .ok (.iconst 0, 1) := by decide +kernel
theorem dX12_built_63 : decode cX12_built 63 = .ok (.invokespecial 212, 3) := by decide +kernel
theorem dX12_built_66 : decode cX12_built 66 = .ok (.areturn, 1) := by decide +kernel
theorem dX12_built_67 : decode cX12_built 67 = .ok (.new 215, 3) := by decide +kernel
theorem dX12_built_70 : decode cX12_built 70 = .ok (.dup, 1) := by decide +kernel
theorem dX12_built_71 : decode cX12_built 71 = .ok (.iload_n 0, 1) := by decide +kernel
theorem dX12_built_72 : decode cX12_built 72 = .ok (.iload_n 2, 1) := by decide +kernel
theorem dX12_built_73 : decode cX12_built 73 = .ok (.invokespecial 217, 3) := by decide +kernel
theorem dX12_built_76 : decode cX12_built 76 = .ok (.areturn, 1) := by decide +kernel
theorem dX12_built_77 : decode cX12_built 77 = .ok (.new 220, 3) := by decide +kernel
theorem dX12_built_80 : decode cX12_built 80 = .ok (.dup, 1) := by decide +kernel
theorem dX12_built_81 : decode cX12_built 81 = .ok (.iload_n 0, 1) := by decide +kernel
theorem dX12_built_82 : decode cX12_built 82 = .ok (.iload_n 2, 1) := by decide +kernel
theorem dX12_built_83 : decode cX12_built 83 = .ok (.invokespecial 222, 3) := by decide +kernel
theorem dX12_built_86 : decode cX12_built 86 = .ok (.areturn, 1) := by decide +kernel
theorem dX12_built_87 : decode cX12_built 87 = .ok (.new 223, 3) := by decide +kernel
theorem dX12_built_90 : decode cX12_built 90 = .ok (.dup, 1) := by decide +kernel
theorem dX12_built_91 : decode cX12_built 91 = .ok (.iload_n 0, 1) := by decide +kernel
theorem dX12_built_92 : decode cX12_built 92 = .ok (.iload_n 1, 1) := by decide +kernel
theorem dX12_built_93 : decode cX12_built 93 = .ok (.iconst 1, 1) := by decide +kernel
theorem dX12_built_94 : decode cX12_built 94 = .ok (.iload_n 2, 1) := by decide +kernel
theorem dX12_built_95 : decode cX12_built 95 = .ok (.invokespecial 225, 3) := by decide +kernel
theorem dX12_built_98 : decode cX12_built 98 = .ok (.areturn, 1) := by decide +kernel
theorem dX12_built_99 : decode cX12_built 99 = .ok (.new 223, 3) := by decide +kernel
theorem dX12_built_102 : decode cX12_built 102 = .ok (.dup, 1) := by decide +kernel
theorem dX12_built_103 : decode cX12_built 103 = .ok (.iload_n 0, 1) := by decide +kernel
theorem dX12_built_104 : decode cX12_built 104 = .ok (.iload_n 1, 1) := by decide +kernel
theorem dX12_built_105 : decode cX12_built 105 = .ok (.iconst 0, 1) := by decide +kernel
theorem dX12_built_106 : decode cX12_built 106 = .ok (.iconst 0, 1) := by decide +kernel
theorem dX12_built_107 : decode cX12_built 107 = .ok (.invokespecial 225, 3) := by decide +kernel
theorem dX12_built_110 : decode cX12_built 110 = .ok (.areturn, 1) := by decide +kernel
theorem dX12_built_111 : decode cX12_built 111 = .ok (.new 228, 3) := by decide +kernel
theorem dX12_built_114 : decode cX12_built 114 = .ok (.dup, 1) := by decide +kernel
theorem dX12_built_115 : decode cX12_built 115 = .ok (.iload_n 0, 1) := by decide +kernel
theorem dX12_built_116 : decode cX12_built 116 = .ok (.invokespecial 230, 3) := by decide +kernel
theorem dX12_built_119 : decode cX12_built 119 = .ok (.areturn, 1) := by decide +kernel
theorem dX12_built_120 : decode cX12_built 120 = .ok (.new 231, 3) := by decide +kernel
theorem dX12_built_123 : decode cX12_built 123 = .ok (.dup, 1) := by decide +kernel
theorem dX12_built_124 : decode cX12_built 124 = .ok (.iload_n 0, 1) := by decide +kernel
theorem dX12_built_125 : decode cX12_built 125 = .ok (.iload_n 1, 1) := by decide +kernel
theorem dX12_built_126 : decode cX12_built 126 = .ok (.iload_n 2, 1) := by decide +kernel
theorem dX12_built_127 : decode cX12_built 127 = .ok (.invokespecial 233, 3) := by decide +kernel
theorem dX12_built_130 : decode cX12_built 130 = .ok (.areturn, 1) := by decide +kernel
theorem dX12_syncAt_0 : decode cX12_syncAt 0 = .ok (.iload_n 1, 1) := by decide +kernel
theorem dX12_syncAt_1 : decode cX12_syncAt 1 = .ok (.ifCond .lt 21, 3) := by decide +kernel
theorem dX12_syncAt_4 : decode cX12_syncAt 4 = .ok (.iload_n 1, 1) := by decide +kernel
theorem dX12_syncAt_5 : decode cX12_syncAt 5 = .ok (.aload_n 0, 1) := by decide +kernel
theorem dX12_syncAt_6 : decode cX12_syncAt 6 = .ok (.getfield 18, 3) := by decide +kernel
theorem dX12_syncAt_9 : decode cX12_syncAt 9 = .ok (.arraylength, 1) := by decide +kernel
theorem dX12_syncAt_10 : decode cX12_syncAt 10 = .ok (.if_icmp .ge 12, 3) := by decide +kernel
theorem dX12_syncAt_13 : decode cX12_syncAt 13 = .ok (.aload_n 0, 1) := by decide +kernel
theorem dX12_syncAt_14 : decode cX12_syncAt 14 = .ok (.getfield 18, 3) := by decide +kernel
theorem dX12_syncAt_17 : decode cX12_syncAt 17 = .ok (.iload_n 1, 1) := by decide +kernel
theorem dX12_syncAt_18 : decode cX12_syncAt 18 = .ok (.aaload, 1) := by decide +kernel
theorem dX12_syncAt_19 : decode cX12_syncAt 19 = .ok (.goto 4, 3) := by decide +kernel
theorem dX12_syncAt_22 : decode cX12_syncAt 22 = .ok (.aconst_null, 1) := by decide +kernel
theorem dX12_syncAt_23 : decode cX12_syncAt 23 = .ok (.areturn, 1) := by decide +kernel
theorem dX12_leastFree_0 : decode cX12_leastFree 0 = .ok (.iconst 0, 1) := by decide +kernel
theorem dX12_leastFree_1 : decode cX12_leastFree 1 = .ok (.istore_n 1, 1) := by decide +kernel
theorem dX12_leastFree_2 : decode cX12_leastFree 2 = .ok (.iload_n 1, 1) := by decide +kernel
theorem dX12_leastFree_3 : decode cX12_leastFree 3 = .ok (.aload_n 0, 1) := by decide +kernel
theorem dX12_leastFree_4 : decode cX12_leastFree 4 = .ok (.getfield 18, 3) := by decide +kernel
theorem dX12_leastFree_7 : decode cX12_leastFree 7 = .ok (.arraylength, 1) := by decide +kernel
theorem dX12_leastFree_8 : decode cX12_leastFree 8 = .ok (.if_icmp .ge 20, 3) := by decide +kernel
theorem dX12_leastFree_11 : decode cX12_leastFree 11 = .ok (.aload_n 0, 1) := by decide +kernel
theorem dX12_leastFree_12 : decode cX12_leastFree 12 = .ok (.getfield 18, 3) := by decide +kernel
theorem dX12_leastFree_15 : decode cX12_leastFree 15 = .ok (.iload_n 1, 1) := by decide +kernel
theorem dX12_leastFree_16 : decode cX12_leastFree 16 = .ok (.aaload, 1) := by decide +kernel
theorem dX12_leastFree_17 : decode cX12_leastFree 17 = .ok (.ifnonnull 5, 3) := by decide +kernel
theorem dX12_leastFree_20 : decode cX12_leastFree 20 = .ok (.iload_n 1, 1) := by decide +kernel
theorem dX12_leastFree_21 : decode cX12_leastFree 21 = .ok (.ireturn, 1) := by decide +kernel
theorem dX12_leastFree_22 : decode cX12_leastFree 22 = .ok (.iinc 1 1, 3) := by decide +kernel
theorem dX12_leastFree_25 : decode cX12_leastFree 25 = .ok (.goto (-23), 3) := by decide +kernel
theorem dX12_leastFree_28 : decode cX12_leastFree 28 = .ok (.iconst (-1), 1) := by decide +kernel
theorem dX12_leastFree_29 : decode cX12_leastFree 29 = .ok (.ireturn, 1) := by decide +kernel
theorem dX12_howManySyncs_0 : decode cX12_howManySyncs 0 = .ok (.iconst 0, 1) := by decide +kernel
theorem dX12_howManySyncs_1 : decode cX12_howManySyncs 1 = .ok (.istore_n 1, 1) := by decide +kernel
theorem dX12_howManySyncs_2 : decode cX12_howManySyncs 2 = .ok (.aload_n 0, 1) := by decide +kernel
theorem dX12_howManySyncs_3 : decode cX12_howManySyncs 3 = .ok (.getfield 18, 3) := by decide +kernel
theorem dX12_howManySyncs_6 : decode cX12_howManySyncs 6 = .ok (.astore_n 2, 1) := by decide +kernel
theorem dX12_howManySyncs_7 : decode cX12_howManySyncs 7 = .ok (.aload_n 2, 1) := by decide +kernel
theorem dX12_howManySyncs_8 : decode cX12_howManySyncs 8 = .ok (.arraylength, 1) := by decide +kernel
theorem dX12_howManySyncs_9 : decode cX12_howManySyncs 9 = .ok (.istore_n 3, 1) := by decide +kernel
theorem dX12_howManySyncs_10 : decode cX12_howManySyncs 10 = .ok (.iconst 0, 1) := by decide +kernel
theorem dX12_howManySyncs_11 : decode cX12_howManySyncs 11 = .ok (.istore 4, 2) := by decide +kernel
theorem dX12_howManySyncs_13 : decode cX12_howManySyncs 13 = .ok (.iload 4, 2) := by decide +kernel
theorem dX12_howManySyncs_15 : decode cX12_howManySyncs 15 = .ok (.iload_n 3, 1) := by decide +kernel
theorem dX12_howManySyncs_16 : decode cX12_howManySyncs 16 = .ok (.if_icmp .ge 28, 3) := by decide +kernel
theorem dX12_howManySyncs_19 : decode cX12_howManySyncs 19 = .ok (.aload_n 2, 1) := by decide +kernel
theorem dX12_howManySyncs_20 : decode cX12_howManySyncs 20 = .ok (.iload 4, 2) := by decide +kernel
theorem dX12_howManySyncs_22 : decode cX12_howManySyncs 22 = .ok (.aaload, 1) := by decide +kernel
theorem dX12_howManySyncs_23 : decode cX12_howManySyncs 23 = .ok (.astore 5, 2) := by decide +kernel
theorem dX12_howManySyncs_25 : decode cX12_howManySyncs 25 = .ok (.iload_n 1, 1) := by decide +kernel
theorem dX12_howManySyncs_26 : decode cX12_howManySyncs 26 = .ok (.aload 5, 2) := by decide +kernel
theorem dX12_howManySyncs_28 : decode cX12_howManySyncs 28 = .ok (.ifnonnull 7, 3) := by decide +kernel
theorem dX12_howManySyncs_31 : decode cX12_howManySyncs 31 = .ok (.iconst 0, 1) := by decide +kernel
theorem dX12_howManySyncs_32 : decode cX12_howManySyncs 32 = .ok (.goto 4, 3) := by decide +kernel
theorem dX12_howManySyncs_35 : decode cX12_howManySyncs 35 = .ok (.iconst 1, 1) := by decide +kernel
theorem dX12_howManySyncs_36 : decode cX12_howManySyncs 36 = .ok (.iadd, 1) := by decide +kernel
theorem dX12_howManySyncs_37 : decode cX12_howManySyncs 37 = .ok (.istore_n 1, 1) := by decide +kernel
theorem dX12_howManySyncs_38 : decode cX12_howManySyncs 38 = .ok (.iinc 4 1, 3) := by decide +kernel
theorem dX12_howManySyncs_41 : decode cX12_howManySyncs 41 = .ok (.goto (-28), 3) := by decide +kernel
theorem dX12_howManySyncs_44 : decode cX12_howManySyncs 44 = .ok (.iload_n 1, 1) := by decide +kernel
theorem dX12_howManySyncs_45 : decode cX12_howManySyncs 45 = .ok (.ireturn, 1) := by decide +kernel
theorem dX12_strandAt_0 : decode cX12_strandAt 0 = .ok (.iload_n 1, 1) := by decide +kernel
theorem dX12_strandAt_1 : decode cX12_strandAt 1 = .ok (.ifCond .lt 12, 3) := by decide +kernel
theorem dX12_strandAt_4 : decode cX12_strandAt 4 = .ok (.iload_n 1, 1) := by decide +kernel
theorem dX12_strandAt_5 : decode cX12_strandAt 5 = .ok (.aload_n 0, 1) := by decide +kernel
theorem dX12_strandAt_6 : decode cX12_strandAt 6 = .ok (.getfield 24, 3) := by decide +kernel
theorem dX12_strandAt_9 : decode cX12_strandAt 9 = .ok (.arraylength, 1) := by decide +kernel
theorem dX12_strandAt_10 : decode cX12_strandAt 10 = .ok (.if_icmp .lt 13, 3) := by decide +kernel
theorem dX12_strandAt_13 : decode cX12_strandAt 13 = .ok (.new 48, 3) := by decide +kernel
theorem dX12_strandAt_16 : decode cX12_strandAt 16 = .ok (.dup, 1) := by decide +kernel
theorem dX12_strandAt_17 : decode cX12_strandAt 17 = .ok (.ldc 236, 2) := by decide +kernel
theorem dX12_strandAt_19 : decode cX12_strandAt 19 = .ok (.invokespecial 52, 3) := by decide +kernel
theorem dX12_strandAt_22 : decode cX12_strandAt 22 = .ok (.athrow, 1) := by decide +kernel
theorem dX12_strandAt_23 : decode cX12_strandAt 23 = .ok (.aload_n 0, 1) := by decide +kernel
theorem dX12_strandAt_24 : decode cX12_strandAt 24 = .ok (.getfield 24, 3) := by decide +kernel
theorem dX12_strandAt_27 : decode cX12_strandAt 27 = .ok (.iload_n 1, 1) := by decide +kernel
theorem dX12_strandAt_28 : decode cX12_strandAt 28 = .ok (.aaload, 1) := by decide +kernel
theorem dX12_strandAt_29 : decode cX12_strandAt 29 = .ok (.areturn, 1) := by decide +kernel
theorem dX12_howManyReady_0 : decode cX12_howManyReady 0 = .ok (.iconst 0, 1) := by decide +kernel
theorem dX12_howManyReady_1 : decode cX12_howManyReady 1 = .ok (.istore_n 1, 1) := by decide +kernel
theorem dX12_howManyReady_2 : decode cX12_howManyReady 2 = .ok (.aload_n 0, 1) := by decide +kernel
theorem dX12_howManyReady_3 : decode cX12_howManyReady 3 = .ok (.getfield 24, 3) := by decide +kernel
theorem dX12_howManyReady_6 : decode cX12_howManyReady 6 = .ok (.astore_n 2, 1) := by decide +kernel
theorem dX12_howManyReady_7 : decode cX12_howManyReady 7 = .ok (.aload_n 2, 1) := by decide +kernel
theorem dX12_howManyReady_8 : decode cX12_howManyReady 8 = .ok (.arraylength, 1) := by decide +kernel
theorem dX12_howManyReady_9 : decode cX12_howManyReady 9 = .ok (.istore_n 3, 1) := by decide +kernel
theorem dX12_howManyReady_10 : decode cX12_howManyReady 10 = .ok (.iconst 0, 1) := by decide +kernel
theorem dX12_howManyReady_11 : decode cX12_howManyReady 11 = .ok (.istore 4, 2) := by decide +kernel
theorem dX12_howManyReady_13 : decode cX12_howManyReady 13 = .ok (.iload 4, 2) := by decide +kernel
theorem dX12_howManyReady_15 : decode cX12_howManyReady 15 = .ok (.iload_n 3, 1) := by decide +kernel
theorem dX12_howManyReady_16 : decode cX12_howManyReady 16 = .ok (.if_icmp .ge 32, 3) := by decide +kernel
theorem dX12_howManyReady_19 : decode cX12_howManyReady 19 = .ok (.aload_n 2, 1) := by decide +kernel
theorem dX12_howManyReady_20 : decode cX12_howManyReady 20 = .ok (.iload 4, 2) := by decide +kernel
theorem dX12_howManyReady_22 : decode cX12_howManyReady 22 = .ok (.aaload, 1) := by decide +kernel
theorem dX12_howManyReady_23 : decode cX12_howManyReady 23 = .ok (.astore 5, 2) := by decide +kernel
theorem dX12_howManyReady_25 : decode cX12_howManyReady 25 = .ok (.iload_n 1, 1) := by decide +kernel
theorem dX12_howManyReady_26 : decode cX12_howManyReady 26 = .ok (.aload 5, 2) := by decide +kernel
theorem dX12_howManyReady_28 : decode cX12_howManyReady 28 = .ok (.getfield 112, 3) := by decide +kernel
theorem dX12_howManyReady_31 : decode cX12_howManyReady 31 = .ok (.iconst 1, 1) := by decide +kernel
theorem dX12_howManyReady_32 : decode cX12_howManyReady 32 = .ok (.if_icmp .ne 7, 3) := by decide +kernel
theorem dX12_howManyReady_35 : decode cX12_howManyReady 35 = .ok (.iconst 1, 1) := by decide +kernel
theorem dX12_howManyReady_36 : decode cX12_howManyReady 36 = .ok (.goto 4, 3) := by decide +kernel
theorem dX12_howManyReady_39 : decode cX12_howManyReady 39 = .ok (.iconst 0, 1) := by decide +kernel
theorem dX12_howManyReady_40 : decode cX12_howManyReady 40 = .ok (.iadd, 1) := by decide +kernel
theorem dX12_howManyReady_41 : decode cX12_howManyReady 41 = .ok (.istore_n 1, 1) := by decide +kernel
theorem dX12_howManyReady_42 : decode cX12_howManyReady 42 = .ok (.iinc 4 1, 3) := by decide +kernel
theorem dX12_howManyReady_45 : decode cX12_howManyReady 45 = .ok (.goto (-32), 3) := by decide +kernel
theorem dX12_howManyReady_48 : decode cX12_howManyReady 48 = .ok (.iload_n 1, 1) := by decide +kernel
theorem dX12_howManyReady_49 : decode cX12_howManyReady 49 = .ok (.ireturn, 1) := by decide +kernel
theorem dX12_readyFrom_0 : decode cX12_readyFrom 0 = .ok (.iload_n 2, 1) := by decide +kernel
theorem dX12_readyFrom_1 : decode cX12_readyFrom 1 = .ok (.istore_n 3, 1) := by decide +kernel
theorem dX12_readyFrom_2 : decode cX12_readyFrom 2 = .ok (.iconst 0, 1) := by decide +kernel
theorem dX12_readyFrom_3 : decode cX12_readyFrom 3 = .ok (.istore 4, 2) := by decide +kernel
theorem dX12_readyFrom_5 : decode cX12_readyFrom 5 = .ok (.iload 4, 2) := by decide +kernel
theorem dX12_readyFrom_7 : decode cX12_readyFrom 7 = .ok (.bipush 8, 2) := by decide +kernel
theorem dX12_readyFrom_9 : decode cX12_readyFrom 9 = .ok (.if_icmp .ge 42, 3) := by decide +kernel
theorem dX12_readyFrom_12 : decode cX12_readyFrom 12 = .ok (.aload_n 0, 1) := by decide +kernel
theorem dX12_readyFrom_13 : decode cX12_readyFrom 13 = .ok (.getfield 24, 3) := by decide +kernel
theorem dX12_readyFrom_16 : decode cX12_readyFrom 16 = .ok (.iload_n 1, 1) := by decide +kernel
theorem dX12_readyFrom_17 : decode cX12_readyFrom 17 = .ok (.iload 4, 2) := by decide +kernel
theorem dX12_readyFrom_19 : decode cX12_readyFrom 19 = .ok (.iadd, 1) := by decide +kernel
theorem dX12_readyFrom_20 : decode cX12_readyFrom 20 = .ok (.bipush 7, 2) := by decide +kernel
theorem dX12_readyFrom_22 : decode cX12_readyFrom 22 = .ok (.iand, 1) := by decide +kernel
theorem dX12_readyFrom_23 : decode cX12_readyFrom 23 = .ok (.aaload, 1) := by decide +kernel
theorem dX12_readyFrom_24 : decode cX12_readyFrom 24 = .ok (.astore 5, 2) := by decide +kernel
theorem dX12_readyFrom_26 : decode cX12_readyFrom 26 = .ok (.aload 5, 2) := by decide +kernel
theorem dX12_readyFrom_28 : decode cX12_readyFrom 28 = .ok (.getfield 112, 3) := by decide +kernel
theorem dX12_readyFrom_31 : decode cX12_readyFrom 31 = .ok (.iconst 1, 1) := by decide +kernel
theorem dX12_readyFrom_32 : decode cX12_readyFrom 32 = .ok (.if_icmp .ne 13, 3) := by decide +kernel
theorem dX12_readyFrom_35 : decode cX12_readyFrom 35 = .ok (.iload_n 3, 1) := by decide +kernel
theorem dX12_readyFrom_36 : decode cX12_readyFrom 36 = .ok (.ifCond .ne 6, 3) := by decide +kernel
theorem dX12_readyFrom_39 : decode cX12_readyFrom 39 = .ok (.aload 5, 2) := by decide +kernel
theorem dX12_readyFrom_41 : decode cX12_readyFrom 41 = .ok (.areturn, 1) := by decide +kernel
theorem dX12_readyFrom_42 : decode cX12_readyFrom 42 = .ok (.iinc 3 (-1), 3) := by decide +kernel
theorem dX12_readyFrom_45 : decode cX12_readyFrom 45 = .ok (.iinc 4 1, 3) := by decide +kernel
theorem dX12_readyFrom_48 : decode cX12_readyFrom 48 = .ok (.goto (-43), 3) := by decide +kernel
theorem dX12_readyFrom_51 : decode cX12_readyFrom 51 = .ok (.aconst_null, 1) := by decide +kernel
theorem dX12_readyFrom_52 : decode cX12_readyFrom 52 = .ok (.areturn, 1) := by decide +kernel
theorem dX12_takeTurn_0 : decode cX12_takeTurn 0 = .ok (.aload_n 1, 1) := by decide +kernel
theorem dX12_takeTurn_1 : decode cX12_takeTurn 1 = .ok (.ifnonnull 4, 3) := by decide +kernel
theorem dX12_takeTurn_4 : decode cX12_takeTurn 4 = .ok (.return_, 1) := by decide +kernel
theorem dX12_takeTurn_5 : decode cX12_takeTurn 5 = .ok (.aload_n 0, 1) := by decide +kernel
theorem dX12_takeTurn_6 : decode cX12_takeTurn 6 = .ok (.dup, 1) := by decide +kernel
theorem dX12_takeTurn_7 : decode cX12_takeTurn 7 = .ok (.getfield 209, 3) := by decide +kernel
theorem dX12_takeTurn_10 : decode cX12_takeTurn 10 = .ok (.lconst 1, 1) := by decide +kernel
theorem dX12_takeTurn_11 : decode cX12_takeTurn 11 = .ok (.ladd, 1) := by decide +kernel
theorem dX12_takeTurn_12 : decode cX12_takeTurn 12 = .ok (.putfield 209, 3) := by decide +kernel
theorem dX12_takeTurn_15 : decode cX12_takeTurn 15 = .ok (.aload_n 0, 1) := by decide +kernel
theorem dX12_takeTurn_16 : decode cX12_takeTurn 16 = .ok (.aload_n 1, 1) := by decide +kernel
theorem dX12_takeTurn_17 : decode cX12_takeTurn 17 = .ok (.getfield 238, 3) := by decide +kernel
theorem dX12_takeTurn_20 : decode cX12_takeTurn 20 = .ok (.putfield 28, 3) := by decide +kernel
theorem dX12_takeTurn_23 : decode cX12_takeTurn 23 = .ok (.aload_n 1, 1) := by decide +kernel
theorem dX12_takeTurn_24 : decode cX12_takeTurn 24 = .ok (.getfield 143, 3) := by decide +kernel
theorem dX12_takeTurn_27 : decode cX12_takeTurn 27 = .ok (.astore_n 3, 1) := by decide +kernel
theorem dX12_takeTurn_28 : decode cX12_takeTurn 28 = .ok (.aload_n 3, 1) := by decide +kernel
theorem dX12_takeTurn_29 : decode cX12_takeTurn 29 = .ok (.instanceof 147, 3) := by decide +kernel
theorem dX12_takeTurn_32 : decode cX12_takeTurn 32 = .ok (.ifCond .eq 14, 3) := by decide +kernel
theorem dX12_takeTurn_35 : decode cX12_takeTurn 35 = .ok (.aload_n 3, 1) := by decide +kernel
theorem dX12_takeTurn_36 : decode cX12_takeTurn 36 = .ok (.checkcast 147, 3) := by decide +kernel
theorem dX12_takeTurn_39 : decode cX12_takeTurn 39 = .ok (.astore_n 2, 1) := by decide +kernel
theorem dX12_takeTurn_40 : decode cX12_takeTurn 40 = .ok (.aload_n 2, 1) := by decide +kernel
theorem dX12_takeTurn_41 : decode cX12_takeTurn 41 = .ok (.aload_n 1, 1) := by decide +kernel
theorem dX12_takeTurn_42 : decode cX12_takeTurn 42 = .ok (.invokevirtual 239, 3) := by decide +kernel
theorem dX12_takeTurn_45 : decode cX12_takeTurn 45 = .ok (.return_, 1) := by decide +kernel
theorem dX12_takeTurn_46 : decode cX12_takeTurn 46 = .ok (.aload_n 1, 1) := by decide +kernel
theorem dX12_takeTurn_47 : decode cX12_takeTurn 47 = .ok (.invokevirtual 242, 3) := by decide +kernel
theorem dX12_takeTurn_50 : decode cX12_takeTurn 50 = .ok (.astore_n 2, 1) := by decide +kernel
theorem dX12_takeTurn_51 : decode cX12_takeTurn 51 = .ok (.aload_n 2, 1) := by decide +kernel
theorem dX12_takeTurn_52 : decode cX12_takeTurn 52 = .ok (.getfield 246, 3) := by decide +kernel
theorem dX12_takeTurn_55 : decode cX12_takeTurn 55 = .ok (.iconst (-1), 1) := by decide +kernel
theorem dX12_takeTurn_56 : decode cX12_takeTurn 56 = .ok (.if_icmp .ne 10, 3) := by decide +kernel
theorem dX12_takeTurn_59 : decode cX12_takeTurn 59 = .ok (.aload_n 0, 1) := by decide +kernel
theorem dX12_takeTurn_60 : decode cX12_takeTurn 60 = .ok (.aload_n 1, 1) := by decide +kernel
theorem dX12_takeTurn_61 : decode cX12_takeTurn 61 = .ok (.aload_n 2, 1) := by decide +kernel
theorem dX12_takeTurn_62 : decode cX12_takeTurn 62 = .ok (.invokevirtual 249, 3) := by decide +kernel
theorem dX12_takeTurn_65 : decode cX12_takeTurn 65 = .ok (.return_, 1) := by decide +kernel
theorem dX12_takeTurn_66 : decode cX12_takeTurn 66 = .ok (.aload_n 0, 1) := by decide +kernel
theorem dX12_takeTurn_67 : decode cX12_takeTurn 67 = .ok (.aload_n 1, 1) := by decide +kernel
theorem dX12_takeTurn_68 : decode cX12_takeTurn 68 = .ok (.iconst 0, 1) := by decide +kernel
theorem dX12_takeTurn_69 : decode cX12_takeTurn 69 = .ok (.invokevirtual 253, 3) := by decide +kernel
theorem dX12_takeTurn_72 : decode cX12_takeTurn 72 = .ok (.invokevirtual 176, 3) := by decide +kernel
theorem dX12_takeTurn_75 : decode cX12_takeTurn 75 = .ok (.astore_n 3, 1) := by decide +kernel
theorem dX12_takeTurn_76 : decode cX12_takeTurn 76 = .ok (.aload_n 3, 1) := by decide +kernel
theorem dX12_takeTurn_77 : decode cX12_takeTurn 77 = .ok (.ifnull 14, 3) := by decide +kernel
theorem dX12_takeTurn_80 : decode cX12_takeTurn 80 = .ok (.aload_n 3, 1) := by decide +kernel
theorem dX12_takeTurn_81 : decode cX12_takeTurn 81 = .ok (.getfield 203, 3) := by decide +kernel
theorem dX12_takeTurn_84 : decode cX12_takeTurn 84 = .ok (.aload_n 2, 1) := by decide +kernel
theorem dX12_takeTurn_85 : decode cX12_takeTurn 85 = .ok (.getfield 246, 3) := by decide +kernel
theorem dX12_takeTurn_88 : decode cX12_takeTurn 88 = .ok (.if_icmp .eq 11, 3) := by decide +kernel
theorem dX12_takeTurn_91 : decode cX12_takeTurn 91 = .ok (.aload_n 1, 1) := by decide +kernel
theorem dX12_takeTurn_92 : decode cX12_takeTurn 92 = .ok (.iconst 2, 1) := by decide +kernel
theorem dX12_takeTurn_93 : decode cX12_takeTurn 93 = .ok (.invokevirtual 256, 3) := by decide +kernel
theorem dX12_takeTurn_96 : decode cX12_takeTurn 96 = .ok (.goto 9, 3) := by decide +kernel
theorem dX12_takeTurn_99 : decode cX12_takeTurn 99 = .ok (.aload_n 3, 1) := by decide +kernel
theorem dX12_takeTurn_100 : decode cX12_takeTurn 100 = .ok (.aload_n 1, 1) := by decide +kernel
theorem dX12_takeTurn_101 : decode cX12_takeTurn 101 = .ok (.aload_n 2, 1) := by decide +kernel
theorem dX12_takeTurn_102 : decode cX12_takeTurn 102 = .ok (.invokevirtual 259, 3) := by decide +kernel
theorem dX12_takeTurn_105 : decode cX12_takeTurn 105 = .ok (.return_, 1) := by decide +kernel
theorem dX12_doAlone_0 : decode cX12_doAlone 0 = .ok (.aload_n 1, 1) := by decide +kernel
theorem dX12_doAlone_1 : decode cX12_doAlone 1 = .ok (.iconst 0, 1) := by decide +kernel
theorem dX12_doAlone_2 : decode cX12_doAlone 2 = .ok (.invokevirtual 253, 3) := by decide +kernel
theorem dX12_doAlone_5 : decode cX12_doAlone 5 = .ok (.istore_n 3, 1) := by decide +kernel
theorem dX12_doAlone_6 : decode cX12_doAlone 6 = .ok (.getstatic 262, 3) := by decide +kernel
theorem dX12_doAlone_9 : decode cX12_doAlone 9 = .ok (.aload_n 2, 1) := by decide +kernel
theorem dX12_doAlone_10 : decode cX12_doAlone 10 = .ok (.invokevirtual 267, 3) := by decide +kernel
theorem dX12_doAlone_13 : decode cX12_doAlone 13 = .ok (.iaload, 1) := by decide +kernel
theorem dX12_doAlone_14 : decode cX12_doAlone 14 = .ok (.tableswitch 140 1 7 #[42, 50, 63, 75, 83, 107, 131], 42) := by decide +kernel
theorem dX12_doAlone_56 : decode cX12_doAlone 56 = .ok (.aload_n 1, 1) := by decide +kernel
theorem dX12_doAlone_57 : decode cX12_doAlone 57 = .ok (.iload_n 3, 1) := by decide +kernel
theorem dX12_doAlone_58 : decode cX12_doAlone 58 = .ok (.invokevirtual 155, 3) := by decide +kernel
theorem dX12_doAlone_61 : decode cX12_doAlone 61 = .ok (.goto 98, 3) := by decide +kernel
theorem dX12_doAlone_64 : decode cX12_doAlone 64 = .ok (.aload_n 1, 1) := by decide +kernel
theorem dX12_doAlone_65 : decode cX12_doAlone 65 = .ok (.aload_n 1, 1) := by decide +kernel
theorem dX12_doAlone_66 : decode cX12_doAlone 66 = .ok (.getfield 160, 3) := by decide +kernel
theorem dX12_doAlone_69 : decode cX12_doAlone 69 = .ok (.iload_n 3, 1) := by decide +kernel
theorem dX12_doAlone_70 : decode cX12_doAlone 70 = .ok (.iadd, 1) := by decide +kernel
theorem dX12_doAlone_71 : decode cX12_doAlone 71 = .ok (.invokevirtual 155, 3) := by decide +kernel
theorem dX12_doAlone_74 : decode cX12_doAlone 74 = .ok (.goto 85, 3) := by decide +kernel
theorem dX12_doAlone_77 : decode cX12_doAlone 77 = .ok (.aload_n 1, 1) := by decide +kernel
theorem dX12_doAlone_78 : decode cX12_doAlone 78 = .ok (.aload_n 0, 1) := by decide +kernel
theorem dX12_doAlone_79 : decode cX12_doAlone 79 = .ok (.getfield 129, 3) := by decide +kernel
theorem dX12_doAlone_82 : decode cX12_doAlone 82 = .ok (.l2i, 1) := by decide +kernel
theorem dX12_doAlone_83 : decode cX12_doAlone 83 = .ok (.invokevirtual 155, 3) := by decide +kernel
theorem dX12_doAlone_86 : decode cX12_doAlone 86 = .ok (.goto 73, 3) := by decide +kernel
theorem dX12_doAlone_89 : decode cX12_doAlone 89 = .ok (.aload_n 1, 1) := by decide +kernel
theorem dX12_doAlone_90 : decode cX12_doAlone 90 = .ok (.iload_n 3, 1) := by decide +kernel
theorem dX12_doAlone_91 : decode cX12_doAlone 91 = .ok (.invokevirtual 270, 3) := by decide +kernel
theorem dX12_doAlone_94 : decode cX12_doAlone 94 = .ok (.goto 65, 3) := by decide +kernel
theorem dX12_doAlone_97 : decode cX12_doAlone 97 = .ok (.aload_n 1, 1) := by decide +kernel
theorem dX12_doAlone_98 : decode cX12_doAlone 98 = .ok (.aload_n 1, 1) := by decide +kernel
theorem dX12_doAlone_99 : decode cX12_doAlone 99 = .ok (.getfield 160, 3) := by decide +kernel
theorem dX12_doAlone_102 : decode cX12_doAlone 102 = .ok (.ifCond .ne 7, 3) := by decide +kernel
theorem dX12_doAlone_105 : decode cX12_doAlone 105 = .ok (.iload_n 3, 1) := by decide +kernel
theorem dX12_doAlone_106 : decode cX12_doAlone 106 = .ok (.goto 9, 3) := by decide +kernel
theorem dX12_doAlone_109 : decode cX12_doAlone 109 = .ok (.aload_n 1, 1) := by decide +kernel
theorem dX12_doAlone_110 : decode cX12_doAlone 110 = .ok (.getfield 163, 3) := by decide +kernel
theorem dX12_doAlone_113 : decode cX12_doAlone 113 = .ok (.iconst 1, 1) := by decide +kernel
theorem dX12_doAlone_114 : decode cX12_doAlone 114 = .ok (.iadd, 1) := by decide +kernel
theorem dX12_doAlone_115 : decode cX12_doAlone 115 = .ok (.invokevirtual 270, 3) := by decide +kernel
theorem dX12_doAlone_118 : decode cX12_doAlone 118 = .ok (.goto 41, 3) := by decide +kernel
theorem dX12_doAlone_121 : decode cX12_doAlone 121 = .ok (.aload_n 1, 1) := by decide +kernel
theorem dX12_doAlone_122 : decode cX12_doAlone 122 = .ok (.aload_n 1, 1) := by decide +kernel
theorem dX12_doAlone_123 : decode cX12_doAlone 123 = .ok (.getfield 160, 3) := by decide +kernel
theorem dX12_doAlone_126 : decode cX12_doAlone 126 = .ok (.ifCond .ge 7, 3) := by decide +kernel
theorem dX12_doAlone_129 : decode cX12_doAlone 129 = .ok (.iload_n 3, 1) := by decide +kernel
theorem dX12_doAlone_130 : decode cX12_doAlone 130 = .ok (.goto 9, 3) := by decide +kernel
theorem dX12_doAlone_133 : decode cX12_doAlone 133 = .ok (.aload_n 1, 1) := by decide +kernel
theorem dX12_doAlone_134 : decode cX12_doAlone 134 = .ok (.getfield 163, 3) := by decide +kernel
theorem dX12_doAlone_137 : decode cX12_doAlone 137 = .ok (.iconst 1, 1) := by decide +kernel
theorem dX12_doAlone_138 : decode cX12_doAlone 138 = .ok (.iadd, 1) := by decide +kernel
theorem dX12_doAlone_139 : decode cX12_doAlone 139 = .ok (.invokevirtual 270, 3) := by decide +kernel
theorem dX12_doAlone_142 : decode cX12_doAlone 142 = .ok (.goto 17, 3) := by decide +kernel
theorem dX12_doAlone_145 : decode cX12_doAlone 145 = .ok (.aload_n 0, 1) := by decide +kernel
theorem dX12_doAlone_146 : decode cX12_doAlone 146 = .ok (.aload_n 1, 1) := by decide +kernel
theorem dX12_doAlone_147 : decode cX12_doAlone 147 = .ok (.iload_n 3, 1) := by decide +kernel
theorem dX12_doAlone_148 : decode cX12_doAlone 148 = .ok (.invokevirtual 273, 3) := by decide +kernel
theorem dX12_doAlone_151 : decode cX12_doAlone 151 = .ok (.goto 8, 3) := by decide +kernel
theorem dX12_doAlone_154 : decode cX12_doAlone 154 = .ok (.aload_n 1, 1) := by decide +kernel
theorem dX12_doAlone_155 : decode cX12_doAlone 155 = .ok (.iconst 4, 1) := by decide +kernel
theorem dX12_doAlone_156 : decode cX12_doAlone 156 = .ok (.putfield 112, 3) := by decide +kernel
theorem dX12_doAlone_159 : decode cX12_doAlone 159 = .ok (.return_, 1) := by decide +kernel
theorem dX12_fallAsleep_0 : decode cX12_fallAsleep 0 = .ok (.iload_n 2, 1) := by decide +kernel
theorem dX12_fallAsleep_1 : decode cX12_fallAsleep 1 = .ok (.iconst 1, 1) := by decide +kernel
theorem dX12_fallAsleep_2 : decode cX12_fallAsleep 2 = .ok (.if_icmp .ge 10, 3) := by decide +kernel
theorem dX12_fallAsleep_5 : decode cX12_fallAsleep 5 = .ok (.aload_n 1, 1) := by decide +kernel
theorem dX12_fallAsleep_6 : decode cX12_fallAsleep 6 = .ok (.invokevirtual 136, 3) := by decide +kernel
theorem dX12_fallAsleep_9 : decode cX12_fallAsleep 9 = .ok (.goto 26, 3) := by decide +kernel
theorem dX12_fallAsleep_12 : decode cX12_fallAsleep 12 = .ok (.aload_n 1, 1) := by decide +kernel
theorem dX12_fallAsleep_13 : decode cX12_fallAsleep 13 = .ok (.invokevirtual 277, 3) := by decide +kernel
theorem dX12_fallAsleep_16 : decode cX12_fallAsleep 16 = .ok (.ifCond .ne 19, 3) := by decide +kernel
theorem dX12_fallAsleep_19 : decode cX12_fallAsleep 19 = .ok (.aload_n 1, 1) := by decide +kernel
theorem dX12_fallAsleep_20 : decode cX12_fallAsleep 20 = .ok (.aload_n 0, 1) := by decide +kernel
theorem dX12_fallAsleep_21 : decode cX12_fallAsleep 21 = .ok (.getfield 129, 3) := by decide +kernel
theorem dX12_fallAsleep_24 : decode cX12_fallAsleep 24 = .ok (.iload_n 2, 1) := by decide +kernel
theorem dX12_fallAsleep_25 : decode cX12_fallAsleep 25 = .ok (.i2l, 1) := by decide +kernel
theorem dX12_fallAsleep_26 : decode cX12_fallAsleep 26 = .ok (.ladd, 1) := by decide +kernel
theorem dX12_fallAsleep_27 : decode cX12_fallAsleep 27 = .ok (.putfield 133, 3) := by decide +kernel
theorem dX12_fallAsleep_30 : decode cX12_fallAsleep 30 = .ok (.aload_n 1, 1) := by decide +kernel
theorem dX12_fallAsleep_31 : decode cX12_fallAsleep 31 = .ok (.iconst 3, 1) := by decide +kernel
theorem dX12_fallAsleep_32 : decode cX12_fallAsleep 32 = .ok (.putfield 112, 3) := by decide +kernel
theorem dX12_fallAsleep_35 : decode cX12_fallAsleep 35 = .ok (.return_, 1) := by decide +kernel
theorem dX12_blockerOf_0 : decode cX12_blockerOf 0 = .ok (.iload_n 1, 1) := by decide +kernel
theorem dX12_blockerOf_1 : decode cX12_blockerOf 1 = .ok (.ifCond .lt 12, 3) := by decide +kernel
theorem dX12_blockerOf_4 : decode cX12_blockerOf 4 = .ok (.iload_n 1, 1) := by decide +kernel
theorem dX12_blockerOf_5 : decode cX12_blockerOf 5 = .ok (.aload_n 0, 1) := by decide +kernel
theorem dX12_blockerOf_6 : decode cX12_blockerOf 6 = .ok (.getfield 24, 3) := by decide +kernel
theorem dX12_blockerOf_9 : decode cX12_blockerOf 9 = .ok (.arraylength, 1) := by decide +kernel
theorem dX12_blockerOf_10 : decode cX12_blockerOf 10 = .ok (.if_icmp .lt 5, 3) := by decide +kernel
theorem dX12_blockerOf_13 : decode cX12_blockerOf 13 = .ok (.iconst (-1), 1) := by decide +kernel
theorem dX12_blockerOf_14 : decode cX12_blockerOf 14 = .ok (.ireturn, 1) := by decide +kernel
theorem dX12_blockerOf_15 : decode cX12_blockerOf 15 = .ok (.aload_n 0, 1) := by decide +kernel
theorem dX12_blockerOf_16 : decode cX12_blockerOf 16 = .ok (.getfield 24, 3) := by decide +kernel
theorem dX12_blockerOf_19 : decode cX12_blockerOf 19 = .ok (.iload_n 1, 1) := by decide +kernel
theorem dX12_blockerOf_20 : decode cX12_blockerOf 20 = .ok (.aaload, 1) := by decide +kernel
theorem dX12_blockerOf_21 : decode cX12_blockerOf 21 = .ok (.astore_n 2, 1) := by decide +kernel
theorem dX12_blockerOf_22 : decode cX12_blockerOf 22 = .ok (.aload_n 2, 1) := by decide +kernel
theorem dX12_blockerOf_23 : decode cX12_blockerOf 23 = .ok (.getfield 112, 3) := by decide +kernel
theorem dX12_blockerOf_26 : decode cX12_blockerOf 26 = .ok (.iconst 2, 1) := by decide +kernel
theorem dX12_blockerOf_27 : decode cX12_blockerOf 27 = .ok (.if_icmp .ne 39, 3) := by decide +kernel
theorem dX12_blockerOf_30 : decode cX12_blockerOf 30 = .ok (.aload_n 2, 1) := by decide +kernel
theorem dX12_blockerOf_31 : decode cX12_blockerOf 31 = .ok (.getfield 143, 3) := by decide +kernel
theorem dX12_blockerOf_34 : decode cX12_blockerOf 34 = .ok (.astore 4, 2) := by decide +kernel
theorem dX12_blockerOf_36 : decode cX12_blockerOf 36 = .ok (.aload 4, 2) := by decide +kernel
theorem dX12_blockerOf_38 : decode cX12_blockerOf 38 = .ok (.instanceof 147, 3) := by decide +kernel
theorem dX12_blockerOf_41 : decode cX12_blockerOf 41 = .ok (.ifCond .eq 25, 3) := by decide +kernel
theorem dX12_blockerOf_44 : decode cX12_blockerOf 44 = .ok (.aload 4, 2) := by decide +kernel
theorem dX12_blockerOf_46 : decode cX12_blockerOf 46 = .ok (.checkcast 147, 3) := by decide +kernel
theorem dX12_blockerOf_49 : decode cX12_blockerOf 49 = .ok (.astore_n 3, 1) := by decide +kernel
theorem dX12_blockerOf_50 : decode cX12_blockerOf 50 = .ok (.aload_n 2, 1) := by decide +kernel
theorem dX12_blockerOf_51 : decode cX12_blockerOf 51 = .ok (.getfield 280, 3) := by decide +kernel
theorem dX12_blockerOf_54 : decode cX12_blockerOf 54 = .ok (.aload_n 3, 1) := by decide +kernel
theorem dX12_blockerOf_55 : decode cX12_blockerOf 55 = .ok (.getfield 281, 3) := by decide +kernel
theorem dX12_blockerOf_58 : decode cX12_blockerOf 58 = .ok (.if_acmp .ne 8, 3) := by decide +kernel
theorem dX12_blockerOf_61 : decode cX12_blockerOf 61 = .ok (.aload_n 3, 1) := by decide +kernel
theorem dX12_blockerOf_62 : decode cX12_blockerOf 62 = .ok (.getfield 282, 3) := by decide +kernel
theorem dX12_blockerOf_65 : decode cX12_blockerOf 65 = .ok (.ireturn, 1) := by decide +kernel
theorem dX12_blockerOf_66 : decode cX12_blockerOf 66 = .ok (.iconst (-1), 1) := by decide +kernel
theorem dX12_blockerOf_67 : decode cX12_blockerOf 67 = .ok (.ireturn, 1) := by decide +kernel
theorem dJx29ce0_ordinal_8abf5_0 : decode cJx29ce0_ordinal_8abf5 0 = .ok (.aload_n 0, 1) := by decide +kernel
theorem dJx29ce0_ordinal_8abf5_1 : decode cJx29ce0_ordinal_8abf5 1 = .ok (.getfield 7, 3) := by decide +kernel
theorem dJx29ce0_ordinal_8abf5_4 : decode cJx29ce0_ordinal_8abf5 4 = .ok (.ireturn, 1) := by decide +kernel
theorem dJ0_length_8abf5_0 : decode cJ0_length_8abf5 0 = .ok (.aload_n 0, 1) := by decide +kernel
theorem dJ0_length_8abf5_1 : decode cJ0_length_8abf5 1 = .ok (.getfield 9, 3) := by decide +kernel
theorem dJ0_length_8abf5_4 : decode cJ0_length_8abf5 4 = .ok (.arraylength, 1) := by decide +kernel
theorem dJ0_length_8abf5_5 : decode cJ0_length_8abf5 5 = .ok (.aload_n 0, 1) := by decide +kernel
theorem dJ0_length_8abf5_6 : decode cJ0_length_8abf5 6 = .ok (.invokevirtual 335, 3) := by decide +kernel
theorem dJ0_length_8abf5_9 : decode cJ0_length_8abf5 9 = .ok (.ishr, 1) := by decide +kernel
theorem dJ0_length_8abf5_10 : decode cJ0_length_8abf5 10 = .ok (.ireturn, 1) := by decide +kernel
theorem dJ0_charAt_5068e_0 : decode cJ0_charAt_5068e 0 = .ok (.aload_n 0, 1) := by decide +kernel
theorem dJ0_charAt_5068e_1 : decode cJ0_charAt_5068e 1 = .ok (.invokevirtual 492, 3) := by decide +kernel
theorem dJ0_charAt_5068e_4 : decode cJ0_charAt_5068e 4 = .ok (.ifCond .eq 12, 3) := by decide +kernel
theorem dJ0_charAt_5068e_7 : decode cJ0_charAt_5068e 7 = .ok (.aload_n 0, 1) := by decide +kernel
theorem dJ0_charAt_5068e_8 : decode cJ0_charAt_5068e 8 = .ok (.getfield 9, 3) := by decide +kernel
theorem dJ0_charAt_5068e_11 : decode cJ0_charAt_5068e 11 = .ok (.iload_n 1, 1) := by decide +kernel
theorem dJ0_charAt_5068e_12 : decode cJ0_charAt_5068e 12 = .ok (.invokestatic 495, 3) := by decide +kernel
theorem dJ0_charAt_5068e_15 : decode cJ0_charAt_5068e 15 = .ok (.ireturn, 1) := by decide +kernel
theorem dJ0_charAt_5068e_16 : decode cJ0_charAt_5068e 16 = .ok (.aload_n 0, 1) := by decide +kernel
theorem dJ0_charAt_5068e_17 : decode cJ0_charAt_5068e 17 = .ok (.getfield 9, 3) := by decide +kernel
theorem dJ0_charAt_5068e_20 : decode cJ0_charAt_5068e 20 = .ok (.iload_n 1, 1) := by decide +kernel
theorem dJ0_charAt_5068e_21 : decode cJ0_charAt_5068e 21 = .ok (.invokestatic 498, 3) := by decide +kernel
theorem dJ0_charAt_5068e_24 : decode cJ0_charAt_5068e 24 = .ok (.ireturn, 1) := by decide +kernel
theorem dJ0_coder_7d493_0 : decode cJ0_coder_7d493 0 = .ok (.getstatic 38, 3) := by decide +kernel
theorem dJ0_coder_7d493_3 : decode cJ0_coder_7d493 3 = .ok (.ifCond .eq 10, 3) := by decide +kernel
theorem dJ0_coder_7d493_6 : decode cJ0_coder_7d493 6 = .ok (.aload_n 0, 1) := by decide +kernel
theorem dJ0_coder_7d493_7 : decode cJ0_coder_7d493 7 = .ok (.getfield 15, 3) := by decide +kernel
theorem dJ0_coder_7d493_10 : decode cJ0_coder_7d493 10 = .ok (.goto 4, 3) := by decide +kernel
theorem dJ0_coder_7d493_13 : decode cJ0_coder_7d493 13 = .ok (.iconst 1, 1) := by decide +kernel
theorem dJ0_coder_7d493_14 : decode cJ0_coder_7d493 14 = .ok (.ireturn, 1) := by decide +kernel
theorem dJ0_isLatin1_aae02_0 : decode cJ0_isLatin1_aae02 0 = .ok (.getstatic 38, 3) := by decide +kernel
theorem dJ0_isLatin1_aae02_3 : decode cJ0_isLatin1_aae02 3 = .ok (.ifCond .eq 14, 3) := by decide +kernel
theorem dJ0_isLatin1_aae02_6 : decode cJ0_isLatin1_aae02 6 = .ok (.aload_n 0, 1) := by decide +kernel
theorem dJ0_isLatin1_aae02_7 : decode cJ0_isLatin1_aae02 7 = .ok (.getfield 15, 3) := by decide +kernel
theorem dJ0_isLatin1_aae02_10 : decode cJ0_isLatin1_aae02 10 = .ok (.ifCond .ne 7, 3) := by decide +kernel
theorem dJ0_isLatin1_aae02_13 : decode cJ0_isLatin1_aae02 13 = .ok (.iconst 1, 1) := by decide +kernel
theorem dJ0_isLatin1_aae02_14 : decode cJ0_isLatin1_aae02 14 = .ok (.goto 4, 3) := by decide +kernel
theorem dJ0_isLatin1_aae02_17 : decode cJ0_isLatin1_aae02 17 = .ok (.iconst 0, 1) := by decide +kernel
theorem dJ0_isLatin1_aae02_18 : decode cJ0_isLatin1_aae02 18 = .ok (.ireturn, 1) := by decide +kernel
theorem dJ0_checkIndex_df160_0 : decode cJ0_checkIndex_df160 0 = .ok (.iload_n 0, 1) := by decide +kernel
theorem dJ0_checkIndex_df160_1 : decode cJ0_checkIndex_df160 1 = .ok (.iload_n 1, 1) := by decide +kernel
theorem dJ0_checkIndex_df160_2 : decode cJ0_checkIndex_df160 2 = .ok (.getstatic 1053, 3) := by decide +kernel
theorem dJ0_checkIndex_df160_5 : decode cJ0_checkIndex_df160 5 = .ok (.invokestatic 1059, 3) := by decide +kernel
theorem dJ0_checkIndex_df160_8 : decode cJ0_checkIndex_df160 8 = .ok (.pop, 1) := by decide +kernel
theorem dJ0_checkIndex_df160_9 : decode cJ0_checkIndex_df160 9 = .ok (.return_, 1) := by decide +kernel
theorem dJ1_charAt_3b067_0 : decode cJ1_charAt_3b067 0 = .ok (.iload_n 1, 1) := by decide +kernel
theorem dJ1_charAt_3b067_1 : decode cJ1_charAt_3b067 1 = .ok (.aload_n 0, 1) := by decide +kernel
theorem dJ1_charAt_3b067_2 : decode cJ1_charAt_3b067 2 = .ok (.arraylength, 1) := by decide +kernel
theorem dJ1_charAt_3b067_3 : decode cJ1_charAt_3b067 3 = .ok (.invokestatic 9, 3) := by decide +kernel
theorem dJ1_charAt_3b067_6 : decode cJ1_charAt_3b067 6 = .ok (.aload_n 0, 1) := by decide +kernel
theorem dJ1_charAt_3b067_7 : decode cJ1_charAt_3b067 7 = .ok (.iload_n 1, 1) := by decide +kernel
theorem dJ1_charAt_3b067_8 : decode cJ1_charAt_3b067 8 = .ok (.baload, 1) := by decide +kernel
theorem dJ1_charAt_3b067_9 : decode cJ1_charAt_3b067 9 = .ok (.sipush 255, 3) := by decide +kernel
theorem dJ1_charAt_3b067_12 : decode cJ1_charAt_3b067 12 = .ok (.iand, 1) := by decide +kernel
theorem dJ1_charAt_3b067_13 : decode cJ1_charAt_3b067 13 = .ok (.i2c, 1) := by decide +kernel
theorem dJ1_charAt_3b067_14 : decode cJ1_charAt_3b067 14 = .ok (.ireturn, 1) := by decide +kernel
theorem dJ2_getChar_3b067_0 : decode cJ2_getChar_3b067 0 = .ok (.getstatic 44, 3) := by decide +kernel
theorem dJ2_getChar_3b067_3 : decode cJ2_getChar_3b067 3 = .ok (.ifCond .ne 25, 3) := by decide +kernel
theorem dJ2_getChar_3b067_6 : decode cJ2_getChar_3b067 6 = .ok (.iload_n 1, 1) := by decide +kernel
theorem dJ2_getChar_3b067_7 : decode cJ2_getChar_3b067 7 = .ok (.ifCond .lt 11, 3) := by decide +kernel

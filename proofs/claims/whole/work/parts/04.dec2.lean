theorem dX2_init_0 : decode cX2_init 0 = .ok (.aload_n 0, 1) := by decide +kernel
theorem dX2_init_1 : decode cX2_init 1 = .ok (.invokespecial 3, 3) := by decide +kernel
theorem dX2_init_4 : decode cX2_init 4 = .ok (.aload_n 0, 1) := by decide +kernel
theorem dX2_init_5 : decode cX2_init 5 = .ok (.iload_n 1, 1) := by decide +kernel
theorem dX2_init_6 : decode cX2_init 6 = .ok (.putfield 9, 3) := by decide +kernel
theorem dX2_init_9 : decode cX2_init 9 = .ok (.aload_n 0, 1) := by decide +kernel
theorem dX2_init_10 : decode cX2_init 10 = .ok (.bipush 96, 2) := by decide +kernel
theorem dX2_init_12 : decode cX2_init 12 = .ok (.newarray .int, 2) := by decide +kernel
theorem dX2_init_14 : decode cX2_init 14 = .ok (.putfield 15, 3) := by decide +kernel
theorem dX2_init_17 : decode cX2_init 17 = .ok (.aload_n 0, 1) := by decide +kernel
theorem dX2_init_18 : decode cX2_init 18 = .ok (.iconst 4, 1) := by decide +kernel
theorem dX2_init_19 : decode cX2_init 19 = .ok (.anewarray 19, 3) := by decide +kernel
theorem dX2_init_22 : decode cX2_init 22 = .ok (.putfield 21, 3) := by decide +kernel
theorem dX2_init_25 : decode cX2_init 25 = .ok (.iconst 0, 1) := by decide +kernel
theorem dX2_init_26 : decode cX2_init 26 = .ok (.istore_n 2, 1) := by decide +kernel
theorem dX2_init_27 : decode cX2_init 27 = .ok (.iload_n 2, 1) := by decide +kernel
theorem dX2_init_28 : decode cX2_init 28 = .ok (.iconst 4, 1) := by decide +kernel
theorem dX2_init_29 : decode cX2_init 29 = .ok (.if_icmp .ge 23, 3) := by decide +kernel
theorem dX2_init_32 : decode cX2_init 32 = .ok (.aload_n 0, 1) := by decide +kernel
theorem dX2_init_33 : decode cX2_init 33 = .ok (.getfield 21, 3) := by decide +kernel
theorem dX2_init_36 : decode cX2_init 36 = .ok (.iload_n 2, 1) := by decide +kernel
theorem dX2_init_37 : decode cX2_init 37 = .ok (.new 19, 3) := by decide +kernel
theorem dX2_init_40 : decode cX2_init 40 = .ok (.dup, 1) := by decide +kernel
theorem dX2_init_41 : decode cX2_init 41 = .ok (.iload_n 2, 1) := by decide +kernel
theorem dX2_init_42 : decode cX2_init 42 = .ok (.invokespecial 25, 3) := by decide +kernel
theorem dX2_init_45 : decode cX2_init 45 = .ok (.aastore, 1) := by decide +kernel
theorem dX2_init_46 : decode cX2_init 46 = .ok (.iinc 2 1, 3) := by decide +kernel
theorem dX2_init_49 : decode cX2_init 49 = .ok (.goto (-22), 3) := by decide +kernel
theorem dX2_init_52 : decode cX2_init 52 = .ok (.aload_n 0, 1) := by decide +kernel
theorem dX2_init_53 : decode cX2_init 53 = .ok (.iconst 4, 1) := by decide +kernel
theorem dX2_init_54 : decode cX2_init 54 = .ok (.anewarray 28, 3) := by decide +kernel
theorem dX2_init_57 : decode cX2_init 57 = .ok (.putfield 30, 3) := by decide +kernel
theorem dX2_init_60 : decode cX2_init 60 = .ok (.iconst 0, 1) := by decide +kernel
theorem dX2_init_61 : decode cX2_init 61 = .ok (.istore_n 2, 1) := by decide +kernel
theorem dX2_init_62 : decode cX2_init 62 = .ok (.iload_n 2, 1) := by decide +kernel
theorem dX2_init_63 : decode cX2_init 63 = .ok (.iconst 4, 1) := by decide +kernel
theorem dX2_init_64 : decode cX2_init 64 = .ok (.if_icmp .ge 22, 3) := by decide +kernel
theorem dX2_init_67 : decode cX2_init 67 = .ok (.aload_n 0, 1) := by decide +kernel
theorem dX2_init_68 : decode cX2_init 68 = .ok (.getfield 30, 3) := by decide +kernel
theorem dX2_init_71 : decode cX2_init 71 = .ok (.iload_n 2, 1) := by decide +kernel
theorem dX2_init_72 : decode cX2_init 72 = .ok (.new 28, 3) := by decide +kernel
theorem dX2_init_75 : decode cX2_init 75 = .ok (.dup, 1) := by decide +kernel
theorem dX2_init_76 : decode cX2_init 76 = .ok (.invokespecial 34, 3) := by decide +kernel
theorem dX2_init_79 : decode cX2_init 79 = .ok (.aastore, 1) := by decide +kernel
theorem dX2_init_80 : decode cX2_init 80 = .ok (.iinc 2 1, 3) := by decide +kernel
theorem dX2_init_83 : decode cX2_init 83 = .ok (.goto (-21), 3) := by decide +kernel
theorem dX2_init_86 : decode cX2_init 86 = .ok (.aload_n 0, 1) := by decide +kernel
theorem dX2_init_87 : decode cX2_init 87 = .ok (.iconst 4, 1) := by decide +kernel
theorem dX2_init_88 : decode cX2_init 88 = .ok (.anewarray 35, 3) := by decide +kernel
theorem dX2_init_91 : decode cX2_init 91 = .ok (.putfield 37, 3) := by decide +kernel
theorem dX2_init_94 : decode cX2_init 94 = .ok (.iconst 0, 1) := by decide +kernel
theorem dX2_init_95 : decode cX2_init 95 = .ok (.istore_n 2, 1) := by decide +kernel
theorem dX2_init_96 : decode cX2_init 96 = .ok (.iload_n 2, 1) := by decide +kernel
theorem dX2_init_97 : decode cX2_init 97 = .ok (.iconst 4, 1) := by decide +kernel
theorem dX2_init_98 : decode cX2_init 98 = .ok (.if_icmp .ge 22, 3) := by decide +kernel
theorem dX2_init_101 : decode cX2_init 101 = .ok (.aload_n 0, 1) := by decide +kernel
theorem dX2_init_102 : decode cX2_init 102 = .ok (.getfield 37, 3) := by decide +kernel
theorem dX2_init_105 : decode cX2_init 105 = .ok (.iload_n 2, 1) := by decide +kernel
theorem dX2_init_106 : decode cX2_init 106 = .ok (.new 35, 3) := by decide +kernel
theorem dX2_init_109 : decode cX2_init 109 = .ok (.dup, 1) := by decide +kernel
theorem dX2_init_110 : decode cX2_init 110 = .ok (.invokespecial 41, 3) := by decide +kernel
theorem dX2_init_113 : decode cX2_init 113 = .ok (.aastore, 1) := by decide +kernel
theorem dX2_init_114 : decode cX2_init 114 = .ok (.iinc 2 1, 3) := by decide +kernel
theorem dX2_init_117 : decode cX2_init 117 = .ok (.goto (-21), 3) := by decide +kernel
theorem dX2_init_120 : decode cX2_init 120 = .ok (.aload_n 0, 1) := by decide +kernel
theorem dX2_init_121 : decode cX2_init 121 = .ok (.iconst 0, 1) := by decide +kernel
theorem dX2_init_122 : decode cX2_init 122 = .ok (.putfield 42, 3) := by decide +kernel
theorem dX2_init_125 : decode cX2_init 125 = .ok (.aload_n 0, 1) := by decide +kernel
theorem dX2_init_126 : decode cX2_init 126 = .ok (.iconst 0, 1) := by decide +kernel
theorem dX2_init_127 : decode cX2_init 127 = .ok (.putfield 45, 3) := by decide +kernel
theorem dX2_init_130 : decode cX2_init 130 = .ok (.return_, 1) := by decide +kernel
theorem dX2_overlapsAnother_0 : decode cX2_overlapsAnother 0 = .ok (.iconst 0, 1) := by decide +kernel
theorem dX2_overlapsAnother_1 : decode cX2_overlapsAnother 1 = .ok (.istore 4, 2) := by decide +kernel
theorem dX2_overlapsAnother_3 : decode cX2_overlapsAnother 3 = .ok (.iload 4, 2) := by decide +kernel
theorem dX2_overlapsAnother_5 : decode cX2_overlapsAnother 5 = .ok (.iconst 4, 1) := by decide +kernel
theorem dX2_overlapsAnother_6 : decode cX2_overlapsAnother 6 = .ok (.if_icmp .ge 32, 3) := by decide +kernel
theorem dX2_overlapsAnother_9 : decode cX2_overlapsAnother 9 = .ok (.iload 4, 2) := by decide +kernel
theorem dX2_overlapsAnother_11 : decode cX2_overlapsAnother 11 = .ok (.iload_n 1, 1) := by decide +kernel
theorem dX2_overlapsAnother_12 : decode cX2_overlapsAnother 12 = .ok (.if_icmp .eq 20, 3) := by decide +kernel
theorem dX2_overlapsAnother_15 : decode cX2_overlapsAnother 15 = .ok (.aload_n 0, 1) := by decide +kernel
theorem dX2_overlapsAnother_16 : decode cX2_overlapsAnother 16 = .ok (.getfield 21, 3) := by decide +kernel
theorem dX2_overlapsAnother_19 : decode cX2_overlapsAnother 19 = .ok (.iload 4, 2) := by decide +kernel
theorem dX2_overlapsAnother_21 : decode cX2_overlapsAnother 21 = .ok (.aaload, 1) := by decide +kernel
theorem dX2_overlapsAnother_22 : decode cX2_overlapsAnother 22 = .ok (.iload_n 2, 1) := by decide +kernel
theorem dX2_overlapsAnother_23 : decode cX2_overlapsAnother 23 = .ok (.iload_n 3, 1) := by decide +kernel
theorem dX2_overlapsAnother_24 : decode cX2_overlapsAnother 24 = .ok (.invokevirtual 48, 3) := by decide +kernel
theorem dX2_overlapsAnother_27 : decode cX2_overlapsAnother 27 = .ok (.ifCond .eq 5, 3) := by decide +kernel
theorem dX2_overlapsAnother_30 : decode cX2_overlapsAnother 30 = .ok (.iconst 1, 1) := by decide +kernel
theorem dX2_overlapsAnother_31 : decode cX2_overlapsAnother 31 = .ok (.ireturn, 1) := by decide +kernel
theorem dX2_overlapsAnother_32 : decode cX2_overlapsAnother 32 = .ok (.iinc 4 1, 3) := by decide +kernel
theorem dX2_overlapsAnother_35 : decode cX2_overlapsAnother 35 = .ok (.goto (-32), 3) := by decide +kernel
theorem dX2_overlapsAnother_38 : decode cX2_overlapsAnother 38 = .ok (.iconst 0, 1) := by decide +kernel
theorem dX2_overlapsAnother_39 : decode cX2_overlapsAnother 39 = .ok (.ireturn, 1) := by decide +kernel
theorem dX2_start_0 : decode cX2_start 0 = .ok (.aload_n 0, 1) := by decide +kernel
theorem dX2_start_1 : decode cX2_start 1 = .ok (.iconst 0, 1) := by decide +kernel
theorem dX2_start_2 : decode cX2_start 2 = .ok (.putfield 42, 3) := by decide +kernel
theorem dX2_start_5 : decode cX2_start 5 = .ok (.iconst 0, 1) := by decide +kernel
theorem dX2_start_6 : decode cX2_start 6 = .ok (.istore_n 1, 1) := by decide +kernel
theorem dX2_start_7 : decode cX2_start 7 = .ok (.iload_n 1, 1) := by decide +kernel
theorem dX2_start_8 : decode cX2_start 8 = .ok (.iconst 4, 1) := by decide +kernel
theorem dX2_start_9 : decode cX2_start 9 = .ok (.if_icmp .ge 18, 3) := by decide +kernel
theorem dX2_start_12 : decode cX2_start 12 = .ok (.aload_n 0, 1) := by decide +kernel
theorem dX2_start_13 : decode cX2_start 13 = .ok (.getfield 30, 3) := by decide +kernel
theorem dX2_start_16 : decode cX2_start 16 = .ok (.iload_n 1, 1) := by decide +kernel
theorem dX2_start_17 : decode cX2_start 17 = .ok (.aaload, 1) := by decide +kernel
theorem dX2_start_18 : decode cX2_start 18 = .ok (.invokevirtual 52, 3) := by decide +kernel
theorem dX2_start_21 : decode cX2_start 21 = .ok (.iinc 1 1, 3) := by decide +kernel
theorem dX2_start_24 : decode cX2_start 24 = .ok (.goto (-17), 3) := by decide +kernel
theorem dX2_start_27 : decode cX2_start 27 = .ok (.iconst 0, 1) := by decide +kernel
theorem dX2_start_28 : decode cX2_start 28 = .ok (.istore_n 1, 1) := by decide +kernel
theorem dX2_start_29 : decode cX2_start 29 = .ok (.iconst 0, 1) := by decide +kernel
theorem dX2_start_30 : decode cX2_start 30 = .ok (.istore_n 2, 1) := by decide +kernel
theorem dX2_start_31 : decode cX2_start 31 = .ok (.iload_n 2, 1) := by decide +kernel
theorem dX2_start_32 : decode cX2_start 32 = .ok (.iconst 4, 1) := by decide +kernel
theorem dX2_start_33 : decode cX2_start 33 = .ok (.if_icmp .ge 48, 3) := by decide +kernel
theorem dX2_start_36 : decode cX2_start 36 = .ok (.aload_n 0, 1) := by decide +kernel
theorem dX2_start_37 : decode cX2_start 37 = .ok (.getfield 21, 3) := by decide +kernel
theorem dX2_start_40 : decode cX2_start 40 = .ok (.iload_n 2, 1) := by decide +kernel
theorem dX2_start_41 : decode cX2_start 41 = .ok (.aaload, 1) := by decide +kernel
theorem dX2_start_42 : decode cX2_start 42 = .ok (.aload_n 0, 1) := by decide +kernel
theorem dX2_start_43 : decode cX2_start 43 = .ok (.getfield 15, 3) := by decide +kernel
theorem dX2_start_46 : decode cX2_start 46 = .ok (.invokevirtual 55, 3) := by decide +kernel
theorem dX2_start_49 : decode cX2_start 49 = .ok (.aload_n 0, 1) := by decide +kernel
theorem dX2_start_50 : decode cX2_start 50 = .ok (.getfield 21, 3) := by decide +kernel
theorem dX2_start_53 : decode cX2_start 53 = .ok (.iload_n 2, 1) := by decide +kernel
theorem dX2_start_54 : decode cX2_start 54 = .ok (.aaload, 1) := by decide +kernel
theorem dX2_start_55 : decode cX2_start 55 = .ok (.getfield 59, 3) := by decide +kernel
theorem dX2_start_58 : decode cX2_start 58 = .ok (.ifCond .eq 17, 3) := by decide +kernel
theorem dX2_start_61 : decode cX2_start 61 = .ok (.iload_n 1, 1) := by decide +kernel
theorem dX2_start_62 : decode cX2_start 62 = .ok (.aload_n 0, 1) := by decide +kernel
theorem dX2_start_63 : decode cX2_start 63 = .ok (.getfield 21, 3) := by decide +kernel
theorem dX2_start_66 : decode cX2_start 66 = .ok (.iload_n 2, 1) := by decide +kernel
theorem dX2_start_67 : decode cX2_start 67 = .ok (.aaload, 1) := by decide +kernel
theorem dX2_start_68 : decode cX2_start 68 = .ok (.getfield 63, 3) := by decide +kernel
theorem dX2_start_71 : decode cX2_start 71 = .ok (.invokestatic 66, 3) := by decide +kernel
theorem dX2_start_74 : decode cX2_start 74 = .ok (.istore_n 1, 1) := by decide +kernel
theorem dX2_start_75 : decode cX2_start 75 = .ok (.iinc 2 1, 3) := by decide +kernel
theorem dX2_start_78 : decode cX2_start 78 = .ok (.goto (-47), 3) := by decide +kernel
theorem dX2_start_81 : decode cX2_start 81 = .ok (.iload_n 1, 1) := by decide +kernel
theorem dX2_start_82 : decode cX2_start 82 = .ok (.ireturn, 1) := by decide +kernel
theorem dX2_step_0 : decode cX2_step 0 = .ok (.aload_n 1, 1) := by decide +kernel
theorem dX2_step_1 : decode cX2_step 1 = .ok (.invokevirtual 70, 3) := by decide +kernel
theorem dX2_step_4 : decode cX2_step 4 = .ok (.aload_n 0, 1) := by decide +kernel
theorem dX2_step_5 : decode cX2_step 5 = .ok (.aload_n 1, 1) := by decide +kernel
theorem dX2_step_6 : decode cX2_step 6 = .ok (.getfield 73, 3) := by decide +kernel
theorem dX2_step_9 : decode cX2_step 9 = .ok (.iconst 4, 1) := by decide +kernel
theorem dX2_step_10 : decode cX2_step 10 = .ok (.iadd, 1) := by decide +kernel
theorem dX2_step_11 : decode cX2_step 11 = .ok (.putfield 45, 3) := by decide +kernel
theorem dX2_step_14 : decode cX2_step 14 = .ok (.aload_n 1, 1) := by decide +kernel
theorem dX2_step_15 : decode cX2_step 15 = .ok (.invokestatic 76, 3) := by decide +kernel
theorem dX2_step_18 : decode cX2_step 18 = .ok (.istore_n 2, 1) := by decide +kernel
theorem dX2_step_19 : decode cX2_step 19 = .ok (.iload_n 2, 1) := by decide +kernel
theorem dX2_step_20 : decode cX2_step 20 = .ok (.ifCond .ne 25, 3) := by decide +kernel
theorem dX2_step_23 : decode cX2_step 23 = .ok (.aload_n 0, 1) := by decide +kernel
theorem dX2_step_24 : decode cX2_step 24 = .ok (.aload_n 1, 1) := by decide +kernel
theorem dX2_step_25 : decode cX2_step 25 = .ok (.aload_n 0, 1) := by decide +kernel
theorem dX2_step_26 : decode cX2_step 26 = .ok (.getfield 15, 3) := by decide +kernel
theorem dX2_step_29 : decode cX2_step 29 = .ok (.aload_n 1, 1) := by decide +kernel
theorem dX2_step_30 : decode cX2_step 30 = .ok (.getfield 80, 3) := by decide +kernel
theorem dX2_step_33 : decode cX2_step 33 = .ok (.aload_n 1, 1) := by decide +kernel
theorem dX2_step_34 : decode cX2_step 34 = .ok (.getfield 73, 3) := by decide +kernel
theorem dX2_step_37 : decode cX2_step 37 = .ok (.iconst 4, 1) := by decide +kernel
theorem dX2_step_38 : decode cX2_step 38 = .ok (.idiv, 1) := by decide +kernel
theorem dX2_step_39 : decode cX2_step 39 = .ok (.iadd, 1) := by decide +kernel
theorem dX2_step_40 : decode cX2_step 40 = .ok (.iaload, 1) := by decide +kernel
theorem dX2_step_41 : decode cX2_step 41 = .ok (.invokevirtual 83, 3) := by decide +kernel
theorem dX2_step_44 : decode cX2_step 44 = .ok (.istore_n 2, 1) := by decide +kernel
theorem dX2_step_45 : decode cX2_step 45 = .ok (.iload_n 2, 1) := by decide +kernel
theorem dX2_step_46 : decode cX2_step 46 = .ok (.ifCond .ne 14, 3) := by decide +kernel
theorem dX2_step_49 : decode cX2_step 49 = .ok (.aload_n 1, 1) := by decide +kernel
theorem dX2_step_50 : decode cX2_step 50 = .ok (.aload_n 0, 1) := by decide +kernel
theorem dX2_step_51 : decode cX2_step 51 = .ok (.getfield 45, 3) := by decide +kernel
theorem dX2_step_54 : decode cX2_step 54 = .ok (.putfield 73, 3) := by decide +kernel
theorem dX2_step_57 : decode cX2_step 57 = .ok (.goto 12, 3) := by decide +kernel
theorem dX2_step_60 : decode cX2_step 60 = .ok (.aload_n 1, 1) := by decide +kernel
theorem dX2_step_61 : decode cX2_step 61 = .ok (.iload_n 2, 1) := by decide +kernel
theorem dX2_step_62 : decode cX2_step 62 = .ok (.aload_n 0, 1) := by decide +kernel
theorem dX2_step_63 : decode cX2_step 63 = .ok (.getfield 15, 3) := by decide +kernel
theorem dX2_step_66 : decode cX2_step 66 = .ok (.invokevirtual 87, 3) := by decide +kernel
theorem dX2_step_69 : decode cX2_step 69 = .ok (.return_, 1) := by decide +kernel
theorem dX2_fetchFault_0 : decode cX2_fetchFault 0 = .ok (.aload_n 0, 1) := by decide +kernel
theorem dX2_fetchFault_1 : decode cX2_fetchFault 1 = .ok (.getfield 73, 3) := by decide +kernel
theorem dX2_fetchFault_4 : decode cX2_fetchFault 4 = .ok (.iconst 3, 1) := by decide +kernel
theorem dX2_fetchFault_5 : decode cX2_fetchFault 5 = .ok (.iand, 1) := by decide +kernel
theorem dX2_fetchFault_6 : decode cX2_fetchFault 6 = .ok (.ifCond .eq 5, 3) := by decide +kernel
theorem dX2_fetchFault_9 : decode cX2_fetchFault 9 = .ok (.iconst 2, 1) := by decide +kernel
theorem dX2_fetchFault_10 : decode cX2_fetchFault 10 = .ok (.ireturn, 1) := by decide +kernel
theorem dX2_fetchFault_11 : decode cX2_fetchFault 11 = .ok (.aload_n 0, 1) := by decide +kernel
theorem dX2_fetchFault_12 : decode cX2_fetchFault 12 = .ok (.aload_n 0, 1) := by decide +kernel
theorem dX2_fetchFault_13 : decode cX2_fetchFault 13 = .ok (.getfield 73, 3) := by decide +kernel
theorem dX2_fetchFault_16 : decode cX2_fetchFault 16 = .ok (.invokevirtual 91, 3) := by decide +kernel
theorem dX2_fetchFault_19 : decode cX2_fetchFault 19 = .ok (.ifCond .eq 7, 3) := by decide +kernel
theorem dX2_fetchFault_22 : decode cX2_fetchFault 22 = .ok (.iconst 0, 1) := by decide +kernel
theorem dX2_fetchFault_23 : decode cX2_fetchFault 23 = .ok (.goto 4, 3) := by decide +kernel
theorem dX2_fetchFault_26 : decode cX2_fetchFault 26 = .ok (.iconst 3, 1) := by decide +kernel
theorem dX2_fetchFault_27 : decode cX2_fetchFault 27 = .ok (.ireturn, 1) := by decide +kernel
theorem dX2_execute_0 : decode cX2_execute 0 = .ok (.iload_n 2, 1) := by decide +kernel
theorem dX2_execute_1 : decode cX2_execute 1 = .ok (.invokestatic 95, 3) := by decide +kernel
theorem dX2_execute_4 : decode cX2_execute 4 = .ok (.ifCond .ne 5, 3) := by decide +kernel
theorem dX2_execute_7 : decode cX2_execute 7 = .ok (.iconst 1, 1) := by decide +kernel
theorem dX2_execute_8 : decode cX2_execute 8 = .ok (.ireturn, 1) := by decide +kernel
theorem dX2_execute_9 : decode cX2_execute 9 = .ok (.iload_n 2, 1) := by decide +kernel
theorem dX2_execute_10 : decode cX2_execute 10 = .ok (.invokestatic 100, 3) := by decide +kernel
theorem dX2_execute_13 : decode cX2_execute 13 = .ok (.istore_n 3, 1) := by decide +kernel
theorem dX2_execute_14 : decode cX2_execute 14 = .ok (.iload_n 2, 1) := by decide +kernel
theorem dX2_execute_15 : decode cX2_execute 15 = .ok (.invokestatic 104, 3) := by decide +kernel
theorem dX2_execute_18 : decode cX2_execute 18 = .ok (.istore 4, 2) := by decide +kernel
theorem dX2_execute_20 : decode cX2_execute 20 = .ok (.aload_n 1, 1) := by decide +kernel
theorem dX2_execute_21 : decode cX2_execute 21 = .ok (.iload_n 2, 1) := by decide +kernel
theorem dX2_execute_22 : decode cX2_execute 22 = .ok (.invokestatic 107, 3) := by decide +kernel
theorem dX2_execute_25 : decode cX2_execute 25 = .ok (.invokevirtual 110, 3) := by decide +kernel
theorem dX2_execute_28 : decode cX2_execute 28 = .ok (.istore 5, 2) := by decide +kernel
theorem dX2_execute_30 : decode cX2_execute 30 = .ok (.aload_n 1, 1) := by decide +kernel
theorem dX2_execute_31 : decode cX2_execute 31 = .ok (.iload_n 2, 1) := by decide +kernel
theorem dX2_execute_32 : decode cX2_execute 32 = .ok (.invokestatic 113, 3) := by decide +kernel
theorem dX2_execute_35 : decode cX2_execute 35 = .ok (.invokevirtual 110, 3) := by decide +kernel
theorem dX2_execute_38 : decode cX2_execute 38 = .ok (.istore 6, 2) := by decide +kernel
theorem dX2_execute_40 : decode cX2_execute 40 = .ok (.iload_n 2, 1) := by decide +kernel
theorem dX2_execute_41 : decode cX2_execute 41 = .ok (.invokestatic 116, 3) := by decide +kernel
theorem dX2_execute_44 : decode cX2_execute 44 = .ok (.bipush 32, 2) := by decide +kernel
theorem dX2_execute_46 : decode cX2_execute 46 = .ok (.if_icmp .ne 7, 3) := by decide +kernel
theorem dX2_execute_49 : decode cX2_execute 49 = .ok (.iconst 1, 1) := by decide +kernel
theorem dX2_execute_50 : decode cX2_execute 50 = .ok (.goto 4, 3) := by decide +kernel
theorem dX2_execute_53 : decode cX2_execute 53 = .ok (.iconst 0, 1) := by decide +kernel
theorem dX2_execute_54 : decode cX2_execute 54 = .ok (.istore 7, 2) := by decide +kernel
theorem dX2_execute_56 : decode cX2_execute 56 = .ok (.iload_n 2, 1) := by decide +kernel
theorem dX2_execute_57 : decode cX2_execute 57 = .ok (.invokestatic 119, 3) := by decide +kernel
theorem dX2_execute_60 : decode cX2_execute 60 = .ok (.lookupswitch 252 #[(3, 171), (19, 200), (23, 95), (35, 185), (51, 234), (55, 84), (99, 144), (103, 127), (111, 111)], 84) := by decide +kernel
theorem dX2_execute_144 : decode cX2_execute 144 = .ok (.aload_n 1, 1) := by decide +kernel
theorem dX2_execute_145 : decode cX2_execute 145 = .ok (.iload_n 3, 1) := by decide +kernel
theorem dX2_execute_146 : decode cX2_execute 146 = .ok (.iload_n 2, 1) := by decide +kernel
theorem dX2_execute_147 : decode cX2_execute 147 = .ok (.invokestatic 122, 3) := by decide +kernel
theorem dX2_execute_150 : decode cX2_execute 150 = .ok (.invokevirtual 125, 3) := by decide +kernel
theorem dX2_execute_153 : decode cX2_execute 153 = .ok (.iconst 0, 1) := by decide +kernel
theorem dX2_execute_154 : decode cX2_execute 154 = .ok (.ireturn, 1) := by decide +kernel
theorem dX2_execute_155 : decode cX2_execute 155 = .ok (.aload_n 1, 1) := by decide +kernel
theorem dX2_execute_156 : decode cX2_execute 156 = .ok (.iload_n 3, 1) := by decide +kernel
theorem dX2_execute_157 : decode cX2_execute 157 = .ok (.aload_n 1, 1) := by decide +kernel
theorem dX2_execute_158 : decode cX2_execute 158 = .ok (.getfield 73, 3) := by decide +kernel
theorem dX2_execute_161 : decode cX2_execute 161 = .ok (.iload_n 2, 1) := by decide +kernel
theorem dX2_execute_162 : decode cX2_execute 162 = .ok (.invokestatic 122, 3) := by decide +kernel
theorem dX2_execute_165 : decode cX2_execute 165 = .ok (.iadd, 1) := by decide +kernel
theorem dX2_execute_166 : decode cX2_execute 166 = .ok (.invokevirtual 125, 3) := by decide +kernel
theorem dX2_execute_169 : decode cX2_execute 169 = .ok (.iconst 0, 1) := by decide +kernel
theorem dX2_execute_170 : decode cX2_execute 170 = .ok (.ireturn, 1) := by decide +kernel
theorem dX2_execute_171 : decode cX2_execute 171 = .ok (.aload_n 0, 1) := by decide +kernel
theorem dX2_execute_172 : decode cX2_execute 172 = .ok (.aload_n 1, 1) := by decide +kernel
theorem dX2_execute_173 : decode cX2_execute 173 = .ok (.iload_n 3, 1) := by decide +kernel
theorem dX2_execute_174 : decode cX2_execute 174 = .ok (.aload_n 1, 1) := by decide +kernel
theorem dX2_execute_175 : decode cX2_execute 175 = .ok (.getfield 73, 3) := by decide +kernel
theorem dX2_execute_178 : decode cX2_execute 178 = .ok (.iload_n 2, 1) := by decide +kernel
theorem dX2_execute_179 : decode cX2_execute 179 = .ok (.invokestatic 129, 3) := by decide +kernel
theorem dX2_execute_182 : decode cX2_execute 182 = .ok (.iadd, 1) := by decide +kernel
theorem dX2_execute_183 : decode cX2_execute 183 = .ok (.invokevirtual 132, 3) := by decide +kernel
theorem dX2_execute_186 : decode cX2_execute 186 = .ok (.ireturn, 1) := by decide +kernel
theorem dX2_execute_187 : decode cX2_execute 187 = .ok (.aload_n 0, 1) := by decide +kernel
theorem dX2_execute_188 : decode cX2_execute 188 = .ok (.aload_n 1, 1) := by decide +kernel
theorem dX2_execute_189 : decode cX2_execute 189 = .ok (.iload_n 3, 1) := by decide +kernel
theorem dX2_execute_190 : decode cX2_execute 190 = .ok (.iload 5, 2) := by decide +kernel
theorem dX2_execute_192 : decode cX2_execute 192 = .ok (.iload_n 2, 1) := by decide +kernel
theorem dX2_execute_193 : decode cX2_execute 193 = .ok (.invokestatic 136, 3) := by decide +kernel
theorem dX2_execute_196 : decode cX2_execute 196 = .ok (.iadd, 1) := by decide +kernel
theorem dX2_execute_197 : decode cX2_execute 197 = .ok (.bipush (-2), 2) := by decide +kernel
theorem dX2_execute_199 : decode cX2_execute 199 = .ok (.iand, 1) := by decide +kernel
theorem dX2_execute_200 : decode cX2_execute 200 = .ok (.invokevirtual 132, 3) := by decide +kernel
theorem dX2_execute_203 : decode cX2_execute 203 = .ok (.ireturn, 1) := by decide +kernel
theorem dX2_execute_204 : decode cX2_execute 204 = .ok (.iload 4, 2) := by decide +kernel
theorem dX2_execute_206 : decode cX2_execute 206 = .ok (.iload 5, 2) := by decide +kernel
theorem dX2_execute_208 : decode cX2_execute 208 = .ok (.iload 6, 2) := by decide +kernel
theorem dX2_execute_210 : decode cX2_execute 210 = .ok (.invokestatic 139, 3) := by decide +kernel
theorem dX2_execute_213 : decode cX2_execute 213 = .ok (.ifCond .eq 16, 3) := by decide +kernel
theorem dX2_execute_216 : decode cX2_execute 216 = .ok (.aload_n 0, 1) := by decide +kernel
theorem dX2_execute_217 : decode cX2_execute 217 = .ok (.aload_n 1, 1) := by decide +kernel
theorem dX2_execute_218 : decode cX2_execute 218 = .ok (.getfield 73, 3) := by decide +kernel
theorem dX2_execute_221 : decode cX2_execute 221 = .ok (.iload_n 2, 1) := by decide +kernel
theorem dX2_execute_222 : decode cX2_execute 222 = .ok (.invokestatic 145, 3) := by decide +kernel
theorem dX2_execute_225 : decode cX2_execute 225 = .ok (.iadd, 1) := by decide +kernel
theorem dX2_execute_226 : decode cX2_execute 226 = .ok (.putfield 45, 3) := by decide +kernel
theorem dX2_execute_229 : decode cX2_execute 229 = .ok (.iconst 0, 1) := by decide +kernel
theorem dX2_execute_230 : decode cX2_execute 230 = .ok (.ireturn, 1) := by decide +kernel
theorem dX2_execute_231 : decode cX2_execute 231 = .ok (.aload_n 0, 1) := by decide +kernel
theorem dX2_execute_232 : decode cX2_execute 232 = .ok (.aload_n 1, 1) := by decide +kernel
theorem dX2_execute_233 : decode cX2_execute 233 = .ok (.iload_n 3, 1) := by decide +kernel
theorem dX2_execute_234 : decode cX2_execute 234 = .ok (.iload 5, 2) := by decide +kernel
theorem dX2_execute_236 : decode cX2_execute 236 = .ok (.iload_n 2, 1) := by decide +kernel
theorem dX2_execute_237 : decode cX2_execute 237 = .ok (.invokestatic 136, 3) := by decide +kernel
theorem dX2_execute_240 : decode cX2_execute 240 = .ok (.iadd, 1) := by decide +kernel
theorem dX2_execute_241 : decode cX2_execute 241 = .ok (.invokevirtual 148, 3) := by decide +kernel
theorem dX2_execute_244 : decode cX2_execute 244 = .ok (.ireturn, 1) := by decide +kernel
theorem dX2_execute_245 : decode cX2_execute 245 = .ok (.aload_n 0, 1) := by decide +kernel
theorem dX2_execute_246 : decode cX2_execute 246 = .ok (.aload_n 1, 1) := by decide +kernel
theorem dX2_execute_247 : decode cX2_execute 247 = .ok (.iload 5, 2) := by decide +kernel
theorem dX2_execute_249 : decode cX2_execute 249 = .ok (.iload_n 2, 1) := by decide +kernel
theorem dX2_execute_250 : decode cX2_execute 250 = .ok (.invokestatic 151, 3) := by decide +kernel
theorem dX2_execute_253 : decode cX2_execute 253 = .ok (.iadd, 1) := by decide +kernel
theorem dX2_execute_254 : decode cX2_execute 254 = .ok (.iload 6, 2) := by decide +kernel
theorem dX2_execute_256 : decode cX2_execute 256 = .ok (.invokevirtual 154, 3) := by decide +kernel
theorem dX2_execute_259 : decode cX2_execute 259 = .ok (.ireturn, 1) := by decide +kernel
theorem dX2_execute_260 : decode cX2_execute 260 = .ok (.aload_n 1, 1) := by decide +kernel
theorem dX2_execute_261 : decode cX2_execute 261 = .ok (.iload_n 3, 1) := by decide +kernel
theorem dX2_execute_262 : decode cX2_execute 262 = .ok (.iload 4, 2) := by decide +kernel
theorem dX2_execute_264 : decode cX2_execute 264 = .ok (.iload 7, 2) := by decide +kernel
theorem dX2_execute_266 : decode cX2_execute 266 = .ok (.ifCond .eq 13, 3) := by decide +kernel
theorem dX2_execute_269 : decode cX2_execute 269 = .ok (.iload 4, 2) := by decide +kernel
theorem dX2_execute_271 : decode cX2_execute 271 = .ok (.iconst 5, 1) := by decide +kernel
theorem dX2_execute_272 : decode cX2_execute 272 = .ok (.if_icmp .ne 7, 3) := by decide +kernel
theorem dX2_execute_275 : decode cX2_execute 275 = .ok (.iconst 1, 1) := by decide +kernel
theorem dX2_execute_276 : decode cX2_execute 276 = .ok (.goto 4, 3) := by decide +kernel
theorem dX2_execute_279 : decode cX2_execute 279 = .ok (.iconst 0, 1) := by decide +kernel
theorem dX2_execute_280 : decode cX2_execute 280 = .ok (.iload 5, 2) := by decide +kernel
theorem dX2_execute_282 : decode cX2_execute 282 = .ok (.iload_n 2, 1) := by decide +kernel
theorem dX2_execute_283 : decode cX2_execute 283 = .ok (.invokestatic 136, 3) := by decide +kernel
theorem dX2_execute_286 : decode cX2_execute 286 = .ok (.invokestatic 157, 3) := by decide +kernel
theorem dX2_execute_289 : decode cX2_execute 289 = .ok (.invokevirtual 125, 3) := by decide +kernel
theorem dX2_execute_292 : decode cX2_execute 292 = .ok (.iconst 0, 1) := by decide +kernel
theorem dX2_execute_293 : decode cX2_execute 293 = .ok (.ireturn, 1) := by decide +kernel
theorem dX2_execute_294 : decode cX2_execute 294 = .ok (.aload_n 1, 1) := by decide +kernel
theorem dX2_execute_295 : decode cX2_execute 295 = .ok (.iload_n 3, 1) := by decide +kernel
theorem dX2_execute_296 : decode cX2_execute 296 = .ok (.iload 4, 2) := by decide +kernel
theorem dX2_execute_298 : decode cX2_execute 298 = .ok (.iload 7, 2) := by decide +kernel
theorem dX2_execute_300 : decode cX2_execute 300 = .ok (.iload 5, 2) := by decide +kernel
theorem dX2_execute_302 : decode cX2_execute 302 = .ok (.iload 6, 2) := by decide +kernel
theorem dX2_execute_304 : decode cX2_execute 304 = .ok (.invokestatic 157, 3) := by decide +kernel
theorem dX2_execute_307 : decode cX2_execute 307 = .ok (.invokevirtual 125, 3) := by decide +kernel
theorem dX2_execute_310 : decode cX2_execute 310 = .ok (.iconst 0, 1) := by decide +kernel
theorem dX2_execute_311 : decode cX2_execute 311 = .ok (.ireturn, 1) := by decide +kernel
theorem dX2_execute_312 : decode cX2_execute 312 = .ok (.iload_n 2, 1) := by decide +kernel
theorem dX2_execute_313 : decode cX2_execute 313 = .ok (.bipush 115, 2) := by decide +kernel
theorem dX2_execute_315 : decode cX2_execute 315 = .ok (.if_icmp .ne 11, 3) := by decide +kernel
theorem dX2_execute_318 : decode cX2_execute 318 = .ok (.aload_n 0, 1) := by decide +kernel
theorem dX2_execute_319 : decode cX2_execute 319 = .ok (.aload_n 1, 1) := by decide +kernel
theorem dX2_execute_320 : decode cX2_execute 320 = .ok (.invokevirtual 161, 3) := by decide +kernel
theorem dX2_execute_323 : decode cX2_execute 323 = .ok (.goto 4, 3) := by decide +kernel
theorem dX2_execute_326 : decode cX2_execute 326 = .ok (.iconst 4, 1) := by decide +kernel
theorem dX2_execute_327 : decode cX2_execute 327 = .ok (.ireturn, 1) := by decide +kernel
theorem dX2_jump_0 : decode cX2_jump 0 = .ok (.aload_n 1, 1) := by decide +kernel
theorem dX2_jump_1 : decode cX2_jump 1 = .ok (.iload_n 2, 1) := by decide +kernel
theorem dX2_jump_2 : decode cX2_jump 2 = .ok (.aload_n 1, 1) := by decide +kernel
theorem dX2_jump_3 : decode cX2_jump 3 = .ok (.getfield 73, 3) := by decide +kernel
theorem dX2_jump_6 : decode cX2_jump 6 = .ok (.iconst 4, 1) := by decide +kernel
theorem dX2_jump_7 : decode cX2_jump 7 = .ok (.iadd, 1) := by decide +kernel
theorem dX2_jump_8 : decode cX2_jump 8 = .ok (.invokevirtual 125, 3) := by decide +kernel
theorem dX2_jump_11 : decode cX2_jump 11 = .ok (.aload_n 0, 1) := by decide +kernel
theorem dX2_jump_12 : decode cX2_jump 12 = .ok (.iload_n 3, 1) := by decide +kernel
theorem dX2_jump_13 : decode cX2_jump 13 = .ok (.putfield 45, 3) := by decide +kernel
theorem dX2_jump_16 : decode cX2_jump 16 = .ok (.iconst 0, 1) := by decide +kernel
theorem dX2_jump_17 : decode cX2_jump 17 = .ok (.ireturn, 1) := by decide +kernel
theorem dX2_readInto_0 : decode cX2_readInto 0 = .ok (.iload_n 3, 1) := by decide +kernel
theorem dX2_readInto_1 : decode cX2_readInto 1 = .ok (.iconst 3, 1) := by decide +kernel
theorem dX2_readInto_2 : decode cX2_readInto 2 = .ok (.iand, 1) := by decide +kernel
theorem dX2_readInto_3 : decode cX2_readInto 3 = .ok (.ifCond .eq 5, 3) := by decide +kernel
theorem dX2_readInto_6 : decode cX2_readInto 6 = .ok (.iconst 2, 1) := by decide +kernel
theorem dX2_readInto_7 : decode cX2_readInto 7 = .ok (.ireturn, 1) := by decide +kernel
theorem dX2_readInto_8 : decode cX2_readInto 8 = .ok (.aload_n 1, 1) := by decide +kernel
theorem dX2_readInto_9 : decode cX2_readInto 9 = .ok (.iload_n 3, 1) := by decide +kernel
theorem dX2_readInto_10 : decode cX2_readInto 10 = .ok (.invokevirtual 91, 3) := by decide +kernel
theorem dX2_readInto_13 : decode cX2_readInto 13 = .ok (.ifCond .eq 23, 3) := by decide +kernel
theorem dX2_readInto_16 : decode cX2_readInto 16 = .ok (.aload_n 1, 1) := by decide +kernel
theorem dX2_readInto_17 : decode cX2_readInto 17 = .ok (.iload_n 2, 1) := by decide +kernel
theorem dX2_readInto_18 : decode cX2_readInto 18 = .ok (.aload_n 0, 1) := by decide +kernel
theorem dX2_readInto_19 : decode cX2_readInto 19 = .ok (.getfield 15, 3) := by decide +kernel
theorem dX2_readInto_22 : decode cX2_readInto 22 = .ok (.aload_n 1, 1) := by decide +kernel
theorem dX2_readInto_23 : decode cX2_readInto 23 = .ok (.getfield 80, 3) := by decide +kernel
theorem dX2_readInto_26 : decode cX2_readInto 26 = .ok (.iload_n 3, 1) := by decide +kernel
theorem dX2_readInto_27 : decode cX2_readInto 27 = .ok (.iconst 4, 1) := by decide +kernel
theorem dX2_readInto_28 : decode cX2_readInto 28 = .ok (.idiv, 1) := by decide +kernel
theorem dX2_readInto_29 : decode cX2_readInto 29 = .ok (.iadd, 1) := by decide +kernel
theorem dX2_readInto_30 : decode cX2_readInto 30 = .ok (.iaload, 1) := by decide +kernel
theorem dX2_readInto_31 : decode cX2_readInto 31 = .ok (.invokevirtual 125, 3) := by decide +kernel
theorem dX2_readInto_34 : decode cX2_readInto 34 = .ok (.iconst 0, 1) := by decide +kernel
theorem dX2_readInto_35 : decode cX2_readInto 35 = .ok (.ireturn, 1) := by decide +kernel
theorem dX2_readInto_36 : decode cX2_readInto 36 = .ok (.iload_n 3, 1) := by decide +kernel
theorem dX2_readInto_37 : decode cX2_readInto 37 = .ok (.invokestatic 164, 3) := by decide +kernel
theorem dX2_readInto_40 : decode cX2_readInto 40 = .ok (.istore 4, 2) := by decide +kernel
theorem dX2_readInto_42 : decode cX2_readInto 42 = .ok (.aload_n 0, 1) := by decide +kernel
theorem dX2_readInto_43 : decode cX2_readInto 43 = .ok (.iload 4, 2) := by decide +kernel
theorem dX2_readInto_45 : decode cX2_readInto 45 = .ok (.aload_n 1, 1) := by decide +kernel
theorem dX2_readInto_46 : decode cX2_readInto 46 = .ok (.invokevirtual 167, 3) := by decide +kernel
theorem dX2_readInto_49 : decode cX2_readInto 49 = .ok (.ifCond .ne 5, 3) := by decide +kernel
theorem dX2_readInto_52 : decode cX2_readInto 52 = .ok (.iconst 3, 1) := by decide +kernel
theorem dX2_readInto_53 : decode cX2_readInto 53 = .ok (.ireturn, 1) := by decide +kernel
theorem dX2_readInto_54 : decode cX2_readInto 54 = .ok (.aload_n 1, 1) := by decide +kernel
theorem dX2_readInto_55 : decode cX2_readInto 55 = .ok (.iload_n 2, 1) := by decide +kernel
theorem dX2_readInto_56 : decode cX2_readInto 56 = .ok (.aload_n 0, 1) := by decide +kernel
theorem dX2_readInto_57 : decode cX2_readInto 57 = .ok (.getfield 30, 3) := by decide +kernel
theorem dX2_readInto_60 : decode cX2_readInto 60 = .ok (.iload 4, 2) := by decide +kernel
theorem dX2_readInto_62 : decode cX2_readInto 62 = .ok (.aaload, 1) := by decide +kernel
theorem dX2_readInto_63 : decode cX2_readInto 63 = .ok (.invokevirtual 171, 3) := by decide +kernel
theorem dX2_readInto_66 : decode cX2_readInto 66 = .ok (.invokevirtual 125, 3) := by decide +kernel
theorem dX2_readInto_69 : decode cX2_readInto 69 = .ok (.iconst 0, 1) := by decide +kernel
theorem dX2_readInto_70 : decode cX2_readInto 70 = .ok (.ireturn, 1) := by decide +kernel
theorem dX2_write_0 : decode cX2_write 0 = .ok (.iload_n 2, 1) := by decide +kernel
theorem dX2_write_1 : decode cX2_write 1 = .ok (.iconst 3, 1) := by decide +kernel
theorem dX2_write_2 : decode cX2_write 2 = .ok (.iand, 1) := by decide +kernel
theorem dX2_write_3 : decode cX2_write 3 = .ok (.ifCond .eq 5, 3) := by decide +kernel
theorem dX2_write_6 : decode cX2_write 6 = .ok (.iconst 2, 1) := by decide +kernel
theorem dX2_write_7 : decode cX2_write 7 = .ok (.ireturn, 1) := by decide +kernel
theorem dX2_write_8 : decode cX2_write 8 = .ok (.aload_n 1, 1) := by decide +kernel
theorem dX2_write_9 : decode cX2_write 9 = .ok (.iload_n 2, 1) := by decide +kernel
theorem dX2_write_10 : decode cX2_write 10 = .ok (.invokevirtual 91, 3) := by decide +kernel
theorem dX2_write_13 : decode cX2_write 13 = .ok (.ifCond .eq 19, 3) := by decide +kernel
theorem dX2_write_16 : decode cX2_write 16 = .ok (.aload_n 0, 1) := by decide +kernel
theorem dX2_write_17 : decode cX2_write 17 = .ok (.getfield 15, 3) := by decide +kernel
theorem dX2_write_20 : decode cX2_write 20 = .ok (.aload_n 1, 1) := by decide +kernel
theorem dX2_write_21 : decode cX2_write 21 = .ok (.getfield 80, 3) := by decide +kernel
theorem dX2_write_24 : decode cX2_write 24 = .ok (.iload_n 2, 1) := by decide +kernel
theorem dX2_write_25 : decode cX2_write 25 = .ok (.iconst 4, 1) := by decide +kernel
theorem dX2_write_26 : decode cX2_write 26 = .ok (.idiv, 1) := by decide +kernel
theorem dX2_write_27 : decode cX2_write 27 = .ok (.iadd, 1) := by decide +kernel
theorem dX2_write_28 : decode cX2_write 28 = .ok (.iload_n 3, 1) := by decide +kernel
theorem dX2_write_29 : decode cX2_write 29 = .ok (.iastore, 1) := by decide +kernel
theorem dX2_write_30 : decode cX2_write 30 = .ok (.iconst 0, 1) := by decide +kernel
theorem dX2_write_31 : decode cX2_write 31 = .ok (.ireturn, 1) := by decide +kernel
theorem dX2_write_32 : decode cX2_write 32 = .ok (.iload_n 2, 1) := by decide +kernel
theorem dX2_write_33 : decode cX2_write 33 = .ok (.invokestatic 164, 3) := by decide +kernel
theorem dX2_write_36 : decode cX2_write 36 = .ok (.istore 4, 2) := by decide +kernel
theorem dX2_write_38 : decode cX2_write 38 = .ok (.iload 4, 2) := by decide +kernel
theorem dX2_write_40 : decode cX2_write 40 = .ok (.invokestatic 175, 3) := by decide +kernel
theorem dX2_write_43 : decode cX2_write 43 = .ok (.ifCond .eq 20, 3) := by decide +kernel
theorem dX2_write_46 : decode cX2_write 46 = .ok (.aload_n 0, 1) := by decide +kernel
theorem dX2_write_47 : decode cX2_write 47 = .ok (.getfield 30, 3) := by decide +kernel
theorem dX2_write_50 : decode cX2_write 50 = .ok (.iload 4, 2) := by decide +kernel
theorem dX2_write_52 : decode cX2_write 52 = .ok (.aaload, 1) := by decide +kernel
theorem dX2_write_53 : decode cX2_write 53 = .ok (.getfield 178, 3) := by decide +kernel
theorem dX2_write_56 : decode cX2_write 56 = .ok (.aload_n 1, 1) := by decide +kernel
theorem dX2_write_57 : decode cX2_write 57 = .ok (.getfield 181, 3) := by decide +kernel
theorem dX2_write_60 : decode cX2_write 60 = .ok (.if_icmp .eq 5, 3) := by decide +kernel
theorem dX2_write_63 : decode cX2_write 63 = .ok (.iconst 3, 1) := by decide +kernel
theorem dX2_write_64 : decode cX2_write 64 = .ok (.ireturn, 1) := by decide +kernel
theorem dX2_write_65 : decode cX2_write 65 = .ok (.aload_n 0, 1) := by decide +kernel
theorem dX2_write_66 : decode cX2_write 66 = .ok (.getfield 30, 3) := by decide +kernel
theorem dX2_write_69 : decode cX2_write 69 = .ok (.iload 4, 2) := by decide +kernel
theorem dX2_write_71 : decode cX2_write 71 = .ok (.aaload, 1) := by decide +kernel
theorem dX2_write_72 : decode cX2_write 72 = .ok (.iload_n 3, 1) := by decide +kernel
theorem dX2_write_73 : decode cX2_write 73 = .ok (.aload_n 0, 1) := by decide +kernel
theorem dX2_write_74 : decode cX2_write 74 = .ok (.getfield 42, 3) := by decide +kernel
theorem dX2_write_77 : decode cX2_write 77 = .ok (.invokevirtual 184, 3) := by decide +kernel
theorem dX2_write_80 : decode cX2_write 80 = .ok (.iconst 0, 1) := by decide +kernel
theorem dX2_write_81 : decode cX2_write 81 = .ok (.ireturn, 1) := by decide +kernel
theorem dX2_channelAt_0 : decode cX2_channelAt 0 = .ok (.iload_n 0, 1) := by decide +kernel
theorem dX2_channelAt_1 : decode cX2_channelAt 1 = .ok (.sipush 4096, 3) := by decide +kernel
theorem dX2_channelAt_4 : decode cX2_channelAt 4 = .ok (.isub, 1) := by decide +kernel
theorem dX2_channelAt_5 : decode cX2_channelAt 5 = .ok (.iconst 4, 1) := by decide +kernel
theorem dX2_channelAt_6 : decode cX2_channelAt 6 = .ok (.idiv, 1) := by decide +kernel
theorem dX2_channelAt_7 : decode cX2_channelAt 7 = .ok (.ireturn, 1) := by decide +kernel
theorem dX2_isReadable_0 : decode cX2_isReadable 0 = .ok (.iload_n 1, 1) := by decide +kernel
theorem dX2_isReadable_1 : decode cX2_isReadable 1 = .ok (.ifCond .lt 32, 3) := by decide +kernel
theorem dX2_isReadable_4 : decode cX2_isReadable 4 = .ok (.iload_n 1, 1) := by decide +kernel
theorem dX2_isReadable_5 : decode cX2_isReadable 5 = .ok (.iconst 4, 1) := by decide +kernel
theorem dX2_isReadable_6 : decode cX2_isReadable 6 = .ok (.if_icmp .ge 27, 3) := by decide +kernel
theorem dX2_isReadable_9 : decode cX2_isReadable 9 = .ok (.aload_n 0, 1) := by decide +kernel
theorem dX2_isReadable_10 : decode cX2_isReadable 10 = .ok (.getfield 30, 3) := by decide +kernel
theorem dX2_isReadable_13 : decode cX2_isReadable 13 = .ok (.iload_n 1, 1) := by decide +kernel
theorem dX2_isReadable_14 : decode cX2_isReadable 14 = .ok (.aaload, 1) := by decide +kernel
theorem dX2_isReadable_15 : decode cX2_isReadable 15 = .ok (.getfield 186, 3) := by decide +kernel
theorem dX2_isReadable_18 : decode cX2_isReadable 18 = .ok (.aload_n 2, 1) := by decide +kernel
theorem dX2_isReadable_19 : decode cX2_isReadable 19 = .ok (.getfield 181, 3) := by decide +kernel
theorem dX2_isReadable_22 : decode cX2_isReadable 22 = .ok (.iushr, 1) := by decide +kernel
theorem dX2_isReadable_23 : decode cX2_isReadable 23 = .ok (.iconst 1, 1) := by decide +kernel
theorem dX2_isReadable_24 : decode cX2_isReadable 24 = .ok (.iand, 1) := by decide +kernel
theorem dX2_isReadable_25 : decode cX2_isReadable 25 = .ok (.iconst 1, 1) := by decide +kernel
theorem dX2_isReadable_26 : decode cX2_isReadable 26 = .ok (.if_icmp .ne 7, 3) := by decide +kernel
theorem dX2_isReadable_29 : decode cX2_isReadable 29 = .ok (.iconst 1, 1) := by decide +kernel
theorem dX2_isReadable_30 : decode cX2_isReadable 30 = .ok (.goto 4, 3) := by decide +kernel
theorem dX2_isReadable_33 : decode cX2_isReadable 33 = .ok (.iconst 0, 1) := by decide +kernel
theorem dX2_isReadable_34 : decode cX2_isReadable 34 = .ok (.ireturn, 1) := by decide +kernel
theorem dX2_serve_0 : decode cX2_serve 0 = .ok (.aload_n 1, 1) := by decide +kernel
theorem dX2_serve_1 : decode cX2_serve 1 = .ok (.bipush 15, 2) := by decide +kernel
theorem dX2_serve_3 : decode cX2_serve 3 = .ok (.invokevirtual 110, 3) := by decide +kernel
theorem dX2_serve_6 : decode cX2_serve 6 = .ok (.tableswitch 95 0 4 #[34, 41, 53, 71, 83], 34) := by decide +kernel
theorem dX2_serve_40 : decode cX2_serve 40 = .ok (.aload_n 1, 1) := by decide +kernel
theorem dX2_serve_41 : decode cX2_serve 41 = .ok (.iconst 1, 1) := by decide +kernel
theorem dX2_serve_42 : decode cX2_serve 42 = .ok (.putfield 189, 3) := by decide +kernel
theorem dX2_serve_45 : decode cX2_serve 45 = .ok (.iconst 0, 1) := by decide +kernel
theorem dX2_serve_46 : decode cX2_serve 46 = .ok (.ireturn, 1) := by decide +kernel
theorem dX2_serve_47 : decode cX2_serve 47 = .ok (.aload_n 0, 1) := by decide +kernel
theorem dX2_serve_48 : decode cX2_serve 48 = .ok (.aload_n 1, 1) := by decide +kernel
theorem dX2_serve_49 : decode cX2_serve 49 = .ok (.aload_n 1, 1) := by decide +kernel
theorem dX2_serve_50 : decode cX2_serve 50 = .ok (.bipush 10, 2) := by decide +kernel
theorem dX2_serve_52 : decode cX2_serve 52 = .ok (.invokevirtual 110, 3) := by decide +kernel
theorem dX2_serve_55 : decode cX2_serve 55 = .ok (.invokevirtual 192, 3) := by decide +kernel
theorem dX2_serve_58 : decode cX2_serve 58 = .ok (.ireturn, 1) := by decide +kernel
theorem dX2_serve_59 : decode cX2_serve 59 = .ok (.aload_n 0, 1) := by decide +kernel
theorem dX2_serve_60 : decode cX2_serve 60 = .ok (.aload_n 1, 1) := by decide +kernel
theorem dX2_serve_61 : decode cX2_serve 61 = .ok (.aload_n 1, 1) := by decide +kernel
theorem dX2_serve_62 : decode cX2_serve 62 = .ok (.bipush 10, 2) := by decide +kernel
theorem dX2_serve_64 : decode cX2_serve 64 = .ok (.invokevirtual 110, 3) := by decide +kernel
theorem dX2_serve_67 : decode cX2_serve 67 = .ok (.aload_n 1, 1) := by decide +kernel
theorem dX2_serve_68 : decode cX2_serve 68 = .ok (.bipush 11, 2) := by decide +kernel
theorem dX2_serve_70 : decode cX2_serve 70 = .ok (.invokevirtual 110, 3) := by decide +kernel
theorem dX2_serve_73 : decode cX2_serve 73 = .ok (.invokevirtual 195, 3) := by decide +kernel
theorem dX2_serve_76 : decode cX2_serve 76 = .ok (.ireturn, 1) := by decide +kernel
theorem dX2_serve_77 : decode cX2_serve 77 = .ok (.aload_n 0, 1) := by decide +kernel
theorem dX2_serve_78 : decode cX2_serve 78 = .ok (.aload_n 1, 1) := by decide +kernel
theorem dX2_serve_79 : decode cX2_serve 79 = .ok (.aload_n 1, 1) := by decide +kernel
theorem dX2_serve_80 : decode cX2_serve 80 = .ok (.bipush 10, 2) := by decide +kernel
theorem dX2_serve_82 : decode cX2_serve 82 = .ok (.invokevirtual 110, 3) := by decide +kernel
theorem dX2_serve_85 : decode cX2_serve 85 = .ok (.invokevirtual 198, 3) := by decide +kernel
theorem dX2_serve_88 : decode cX2_serve 88 = .ok (.ireturn, 1) := by decide +kernel
theorem dX2_serve_89 : decode cX2_serve 89 = .ok (.aload_n 1, 1) := by decide +kernel
theorem dX2_serve_90 : decode cX2_serve 90 = .ok (.bipush 10, 2) := by decide +kernel
theorem dX2_serve_92 : decode cX2_serve 92 = .ok (.aload_n 1, 1) := by decide +kernel
theorem dX2_serve_93 : decode cX2_serve 93 = .ok (.getfield 63, 3) := by decide +kernel
theorem dX2_serve_96 : decode cX2_serve 96 = .ok (.invokevirtual 125, 3) := by decide +kernel
theorem dX2_serve_99 : decode cX2_serve 99 = .ok (.iconst 0, 1) := by decide +kernel
theorem dX2_serve_100 : decode cX2_serve 100 = .ok (.ireturn, 1) := by decide +kernel
theorem dX2_serve_101 : decode cX2_serve 101 = .ok (.iconst 3, 1) := by decide +kernel
theorem dX2_serve_102 : decode cX2_serve 102 = .ok (.ireturn, 1) := by decide +kernel
theorem dX2_tellAge_0 : decode cX2_tellAge 0 = .ok (.aload_n 0, 1) := by decide +kernel
theorem dX2_tellAge_1 : decode cX2_tellAge 1 = .ok (.iload_n 2, 1) := by decide +kernel
theorem dX2_tellAge_2 : decode cX2_tellAge 2 = .ok (.aload_n 1, 1) := by decide +kernel
theorem dX2_tellAge_3 : decode cX2_tellAge 3 = .ok (.invokevirtual 167, 3) := by decide +kernel
theorem dX2_tellAge_6 : decode cX2_tellAge 6 = .ok (.ifCond .ne 5, 3) := by decide +kernel
theorem dX2_tellAge_9 : decode cX2_tellAge 9 = .ok (.iconst 3, 1) := by decide +kernel
theorem dX2_tellAge_10 : decode cX2_tellAge 10 = .ok (.ireturn, 1) := by decide +kernel
theorem dX2_tellAge_11 : decode cX2_tellAge 11 = .ok (.aload_n 1, 1) := by decide +kernel
theorem dX2_tellAge_12 : decode cX2_tellAge 12 = .ok (.bipush 10, 2) := by decide +kernel
theorem dX2_tellAge_14 : decode cX2_tellAge 14 = .ok (.aload_n 0, 1) := by decide +kernel
theorem dX2_tellAge_15 : decode cX2_tellAge 15 = .ok (.getfield 30, 3) := by decide +kernel
theorem dX2_tellAge_18 : decode cX2_tellAge 18 = .ok (.iload_n 2, 1) := by decide +kernel
theorem dX2_tellAge_19 : decode cX2_tellAge 19 = .ok (.aaload, 1) := by decide +kernel
theorem dX2_tellAge_20 : decode cX2_tellAge 20 = .ok (.aload_n 0, 1) := by decide +kernel
theorem dX2_tellAge_21 : decode cX2_tellAge 21 = .ok (.getfield 42, 3) := by decide +kernel
theorem dX2_tellAge_24 : decode cX2_tellAge 24 = .ok (.invokevirtual 201, 3) := by decide +kernel
theorem dX2_tellAge_27 : decode cX2_tellAge 27 = .ok (.invokevirtual 125, 3) := by decide +kernel
theorem dX2_tellAge_30 : decode cX2_tellAge 30 = .ok (.iconst 0, 1) := by decide +kernel
theorem dX2_tellAge_31 : decode cX2_tellAge 31 = .ok (.ireturn, 1) := by decide +kernel
theorem dX2_seal_0 : decode cX2_seal 0 = .ok (.iload_n 2, 1) := by decide +kernel
theorem dX2_seal_1 : decode cX2_seal 1 = .ok (.iconst 0, 1) := by decide +kernel
theorem dX2_seal_2 : decode cX2_seal 2 = .ok (.iconst 3, 1) := by decide +kernel
theorem dX2_seal_3 : decode cX2_seal 3 = .ok (.invokestatic 204, 3) := by decide +kernel
theorem dX2_seal_6 : decode cX2_seal 6 = .ok (.ifCond .ne 5, 3) := by decide +kernel
theorem dX2_seal_9 : decode cX2_seal 9 = .ok (.iconst 3, 1) := by decide +kernel
theorem dX2_seal_10 : decode cX2_seal 10 = .ok (.ireturn, 1) := by decide +kernel
theorem dX2_seal_11 : decode cX2_seal 11 = .ok (.aload_n 0, 1) := by decide +kernel
theorem dX2_seal_12 : decode cX2_seal 12 = .ok (.getfield 37, 3) := by decide +kernel
theorem dX2_seal_15 : decode cX2_seal 15 = .ok (.iload_n 2, 1) := by decide +kernel
theorem dX2_seal_16 : decode cX2_seal 16 = .ok (.aaload, 1) := by decide +kernel
theorem dX2_seal_17 : decode cX2_seal 17 = .ok (.iload_n 3, 1) := by decide +kernel
theorem dX2_seal_18 : decode cX2_seal 18 = .ok (.aload_n 0, 1) := by decide +kernel
theorem dX2_seal_19 : decode cX2_seal 19 = .ok (.getfield 9, 3) := by decide +kernel
theorem dX2_seal_22 : decode cX2_seal 22 = .ok (.aload_n 1, 1) := by decide +kernel
theorem dX2_seal_23 : decode cX2_seal 23 = .ok (.getfield 63, 3) := by decide +kernel
theorem dX2_seal_26 : decode cX2_seal 26 = .ok (.invokestatic 66, 3) := by decide +kernel
theorem dX2_seal_29 : decode cX2_seal 29 = .ok (.ixor, 1) := by decide +kernel
theorem dX2_seal_30 : decode cX2_seal 30 = .ok (.putfield 207, 3) := by decide +kernel
theorem dX2_seal_33 : decode cX2_seal 33 = .ok (.aload_n 0, 1) := by decide +kernel
theorem dX2_seal_34 : decode cX2_seal 34 = .ok (.getfield 37, 3) := by decide +kernel
theorem dX2_seal_37 : decode cX2_seal 37 = .ok (.iload_n 2, 1) := by decide +kernel
theorem dX2_seal_38 : decode cX2_seal 38 = .ok (.aaload, 1) := by decide +kernel
theorem dX2_seal_39 : decode cX2_seal 39 = .ok (.aload_n 0, 1) := by decide +kernel
theorem dX2_seal_40 : decode cX2_seal 40 = .ok (.getfield 9, 3) := by decide +kernel
theorem dX2_seal_43 : decode cX2_seal 43 = .ok (.iload_n 3, 1) := by decide +kernel
theorem dX2_seal_44 : decode cX2_seal 44 = .ok (.invokestatic 66, 3) := by decide +kernel
theorem dX2_seal_47 : decode cX2_seal 47 = .ok (.aload_n 1, 1) := by decide +kernel
theorem dX2_seal_48 : decode cX2_seal 48 = .ok (.getfield 63, 3) := by decide +kernel
theorem dX2_seal_51 : decode cX2_seal 51 = .ok (.invokestatic 66, 3) := by decide +kernel
theorem dX2_seal_54 : decode cX2_seal 54 = .ok (.putfield 210, 3) := by decide +kernel
theorem dX2_seal_57 : decode cX2_seal 57 = .ok (.iconst 0, 1) := by decide +kernel
theorem dX2_seal_58 : decode cX2_seal 58 = .ok (.ireturn, 1) := by decide +kernel
theorem dX2_open_0 : decode cX2_open 0 = .ok (.iload_n 2, 1) := by decide +kernel
theorem dX2_open_1 : decode cX2_open 1 = .ok (.iconst 0, 1) := by decide +kernel
theorem dX2_open_2 : decode cX2_open 2 = .ok (.iconst 3, 1) := by decide +kernel
theorem dX2_open_3 : decode cX2_open 3 = .ok (.invokestatic 204, 3) := by decide +kernel
theorem dX2_open_6 : decode cX2_open 6 = .ok (.ifCond .ne 5, 3) := by decide +kernel
theorem dX2_open_9 : decode cX2_open 9 = .ok (.iconst 3, 1) := by decide +kernel
theorem dX2_open_10 : decode cX2_open 10 = .ok (.ireturn, 1) := by decide +kernel
theorem dX2_open_11 : decode cX2_open 11 = .ok (.aload_n 0, 1) := by decide +kernel
theorem dX2_open_12 : decode cX2_open 12 = .ok (.getfield 37, 3) := by decide +kernel
theorem dX2_open_15 : decode cX2_open 15 = .ok (.iload_n 2, 1) := by decide +kernel
theorem dX2_open_16 : decode cX2_open 16 = .ok (.aaload, 1) := by decide +kernel
theorem dX2_open_17 : decode cX2_open 17 = .ok (.getfield 207, 3) := by decide +kernel
theorem dX2_open_20 : decode cX2_open 20 = .ok (.aload_n 0, 1) := by decide +kernel
theorem dX2_open_21 : decode cX2_open 21 = .ok (.getfield 9, 3) := by decide +kernel
theorem dX2_open_24 : decode cX2_open 24 = .ok (.aload_n 1, 1) := by decide +kernel
theorem dX2_open_25 : decode cX2_open 25 = .ok (.getfield 63, 3) := by decide +kernel
theorem dX2_open_28 : decode cX2_open 28 = .ok (.invokestatic 66, 3) := by decide +kernel
theorem dX2_open_31 : decode cX2_open 31 = .ok (.ixor, 1) := by decide +kernel
theorem dX2_open_32 : decode cX2_open 32 = .ok (.istore_n 3, 1) := by decide +kernel
theorem dX2_open_33 : decode cX2_open 33 = .ok (.aload_n 0, 1) := by decide +kernel
theorem dX2_open_34 : decode cX2_open 34 = .ok (.getfield 37, 3) := by decide +kernel
theorem dX2_open_37 : decode cX2_open 37 = .ok (.iload_n 2, 1) := by decide +kernel
theorem dX2_open_38 : decode cX2_open 38 = .ok (.aaload, 1) := by decide +kernel
theorem dX2_open_39 : decode cX2_open 39 = .ok (.getfield 210, 3) := by decide +kernel
theorem dX2_open_42 : decode cX2_open 42 = .ok (.aload_n 0, 1) := by decide +kernel
theorem dX2_open_43 : decode cX2_open 43 = .ok (.getfield 9, 3) := by decide +kernel
theorem dX2_open_46 : decode cX2_open 46 = .ok (.iload_n 3, 1) := by decide +kernel
theorem dX2_open_47 : decode cX2_open 47 = .ok (.invokestatic 66, 3) := by decide +kernel
theorem dX2_open_50 : decode cX2_open 50 = .ok (.aload_n 1, 1) := by decide +kernel
theorem dX2_open_51 : decode cX2_open 51 = .ok (.getfield 63, 3) := by decide +kernel
theorem dX2_open_54 : decode cX2_open 54 = .ok (.invokestatic 66, 3) := by decide +kernel
theorem dX2_open_57 : decode cX2_open 57 = .ok (.if_icmp .ne 7, 3) := by decide +kernel
theorem dX2_open_60 : decode cX2_open 60 = .ok (.iconst 1, 1) := by decide +kernel
theorem dX2_open_61 : decode cX2_open 61 = .ok (.goto 4, 3) := by decide +kernel
theorem dX2_open_64 : decode cX2_open 64 = .ok (.iconst 0, 1) := by decide +kernel
theorem dX2_open_65 : decode cX2_open 65 = .ok (.istore 4, 2) := by decide +kernel
theorem dX2_open_67 : decode cX2_open 67 = .ok (.iload 4, 2) := by decide +kernel
theorem dX2_open_69 : decode cX2_open 69 = .ok (.ifCond .eq 10, 3) := by decide +kernel
theorem dX2_open_72 : decode cX2_open 72 = .ok (.aload_n 1, 1) := by decide +kernel
theorem dX2_open_73 : decode cX2_open 73 = .ok (.bipush 11, 2) := by decide +kernel
theorem dX2_open_75 : decode cX2_open 75 = .ok (.iload_n 3, 1) := by decide +kernel
theorem dX2_open_76 : decode cX2_open 76 = .ok (.invokevirtual 125, 3) := by decide +kernel
theorem dX2_open_79 : decode cX2_open 79 = .ok (.aload_n 1, 1) := by decide +kernel
theorem dX2_open_80 : decode cX2_open 80 = .ok (.bipush 10, 2) := by decide +kernel
theorem dX2_open_82 : decode cX2_open 82 = .ok (.iload 4, 2) := by decide +kernel
theorem dX2_open_84 : decode cX2_open 84 = .ok (.ifCond .eq 7, 3) := by decide +kernel
theorem dX2_open_87 : decode cX2_open 87 = .ok (.iconst 1, 1) := by decide +kernel
theorem dX2_open_88 : decode cX2_open 88 = .ok (.goto 4, 3) := by decide +kernel
theorem dX2_open_91 : decode cX2_open 91 = .ok (.iconst 0, 1) := by decide +kernel
theorem dX2_open_92 : decode cX2_open 92 = .ok (.invokevirtual 125, 3) := by decide +kernel
theorem dX2_open_95 : decode cX2_open 95 = .ok (.iconst 0, 1) := by decide +kernel
theorem dX2_open_96 : decode cX2_open 96 = .ok (.ireturn, 1) := by decide +kernel

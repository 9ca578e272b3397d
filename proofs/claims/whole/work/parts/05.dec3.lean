theorem dX3_init_0 : decode cX3_init 0 = .ok (.aload_n 0, 1) := by decide +kernel
theorem dX3_init_1 : decode cX3_init 1 = .ok (.invokespecial 3, 3) := by decide +kernel
theorem dX3_init_4 : decode cX3_init 4 = .ok (.aload_n 0, 1) := by decide +kernel
theorem dX3_init_5 : decode cX3_init 5 = .ok (.iload_n 1, 1) := by decide +kernel
theorem dX3_init_6 : decode cX3_init 6 = .ok (.putfield 9, 3) := by decide +kernel
theorem dX3_init_9 : decode cX3_init 9 = .ok (.aload_n 0, 1) := by decide +kernel
theorem dX3_init_10 : decode cX3_init 10 = .ok (.iconst 0, 1) := by decide +kernel
theorem dX3_init_11 : decode cX3_init 11 = .ok (.putfield 15, 3) := by decide +kernel
theorem dX3_init_14 : decode cX3_init 14 = .ok (.aload_n 0, 1) := by decide +kernel
theorem dX3_init_15 : decode cX3_init 15 = .ok (.iconst 0, 1) := by decide +kernel
theorem dX3_init_16 : decode cX3_init 16 = .ok (.putfield 18, 3) := by decide +kernel
theorem dX3_init_19 : decode cX3_init 19 = .ok (.aload_n 0, 1) := by decide +kernel
theorem dX3_init_20 : decode cX3_init 20 = .ok (.iconst 0, 1) := by decide +kernel
theorem dX3_init_21 : decode cX3_init 21 = .ok (.putfield 21, 3) := by decide +kernel
theorem dX3_init_24 : decode cX3_init 24 = .ok (.aload_n 0, 1) := by decide +kernel
theorem dX3_init_25 : decode cX3_init 25 = .ok (.iconst 0, 1) := by decide +kernel
theorem dX3_init_26 : decode cX3_init 26 = .ok (.putfield 24, 3) := by decide +kernel
theorem dX3_init_29 : decode cX3_init 29 = .ok (.aload_n 0, 1) := by decide +kernel
theorem dX3_init_30 : decode cX3_init 30 = .ok (.iconst 0, 1) := by decide +kernel
theorem dX3_init_31 : decode cX3_init 31 = .ok (.putfield 27, 3) := by decide +kernel
theorem dX3_init_34 : decode cX3_init 34 = .ok (.aload_n 0, 1) := by decide +kernel
theorem dX3_init_35 : decode cX3_init 35 = .ok (.iconst 0, 1) := by decide +kernel
theorem dX3_init_36 : decode cX3_init 36 = .ok (.putfield 30, 3) := by decide +kernel
theorem dX3_init_39 : decode cX3_init 39 = .ok (.aload_n 0, 1) := by decide +kernel
theorem dX3_init_40 : decode cX3_init 40 = .ok (.iconst 0, 1) := by decide +kernel
theorem dX3_init_41 : decode cX3_init 41 = .ok (.putfield 34, 3) := by decide +kernel
theorem dX3_init_44 : decode cX3_init 44 = .ok (.aload_n 0, 1) := by decide +kernel
theorem dX3_init_45 : decode cX3_init 45 = .ok (.bipush 16, 2) := by decide +kernel
theorem dX3_init_47 : decode cX3_init 47 = .ok (.newarray .int, 2) := by decide +kernel
theorem dX3_init_49 : decode cX3_init 49 = .ok (.putfield 37, 3) := by decide +kernel
theorem dX3_init_52 : decode cX3_init 52 = .ok (.aload_n 0, 1) := by decide +kernel
theorem dX3_init_53 : decode cX3_init 53 = .ok (.bipush 32, 2) := by decide +kernel
theorem dX3_init_55 : decode cX3_init 55 = .ok (.newarray .int, 2) := by decide +kernel
theorem dX3_init_57 : decode cX3_init 57 = .ok (.putfield 41, 3) := by decide +kernel
theorem dX3_init_60 : decode cX3_init 60 = .ok (.aload_n 0, 1) := by decide +kernel
theorem dX3_init_61 : decode cX3_init 61 = .ok (.iconst 0, 1) := by decide +kernel
theorem dX3_init_62 : decode cX3_init 62 = .ok (.putfield 44, 3) := by decide +kernel
theorem dX3_init_65 : decode cX3_init 65 = .ok (.aload_n 0, 1) := by decide +kernel
theorem dX3_init_66 : decode cX3_init 66 = .ok (.iconst 0, 1) := by decide +kernel
theorem dX3_init_67 : decode cX3_init 67 = .ok (.putfield 47, 3) := by decide +kernel
theorem dX3_init_70 : decode cX3_init 70 = .ok (.aload_n 0, 1) := by decide +kernel
theorem dX3_init_71 : decode cX3_init 71 = .ok (.iconst 0, 1) := by decide +kernel
theorem dX3_init_72 : decode cX3_init 72 = .ok (.putfield 50, 3) := by decide +kernel
theorem dX3_init_75 : decode cX3_init 75 = .ok (.aload_n 0, 1) := by decide +kernel
theorem dX3_init_76 : decode cX3_init 76 = .ok (.iconst 0, 1) := by decide +kernel
theorem dX3_init_77 : decode cX3_init 77 = .ok (.putfield 53, 3) := by decide +kernel
theorem dX3_init_80 : decode cX3_init 80 = .ok (.return_, 1) := by decide +kernel
theorem dX3_start_0 : decode cX3_start 0 = .ok (.aload_n 0, 1) := by decide +kernel
theorem dX3_start_1 : decode cX3_start 1 = .ok (.aload_n 0, 1) := by decide +kernel
theorem dX3_start_2 : decode cX3_start 2 = .ok (.getfield 18, 3) := by decide +kernel
theorem dX3_start_5 : decode cX3_start 5 = .ok (.ifCond .le 7, 3) := by decide +kernel
theorem dX3_start_8 : decode cX3_start 8 = .ok (.iconst 1, 1) := by decide +kernel
theorem dX3_start_9 : decode cX3_start 9 = .ok (.goto 4, 3) := by decide +kernel
theorem dX3_start_12 : decode cX3_start 12 = .ok (.iconst 0, 1) := by decide +kernel
theorem dX3_start_13 : decode cX3_start 13 = .ok (.putfield 30, 3) := by decide +kernel
theorem dX3_start_16 : decode cX3_start 16 = .ok (.aload_n 0, 1) := by decide +kernel
theorem dX3_start_17 : decode cX3_start 17 = .ok (.iconst 0, 1) := by decide +kernel
theorem dX3_start_18 : decode cX3_start 18 = .ok (.putfield 34, 3) := by decide +kernel
theorem dX3_start_21 : decode cX3_start 21 = .ok (.aload_n 0, 1) := by decide +kernel
theorem dX3_start_22 : decode cX3_start 22 = .ok (.iconst 0, 1) := by decide +kernel
theorem dX3_start_23 : decode cX3_start 23 = .ok (.putfield 44, 3) := by decide +kernel
theorem dX3_start_26 : decode cX3_start 26 = .ok (.aload_n 0, 1) := by decide +kernel
theorem dX3_start_27 : decode cX3_start 27 = .ok (.iconst 0, 1) := by decide +kernel
theorem dX3_start_28 : decode cX3_start 28 = .ok (.putfield 47, 3) := by decide +kernel
theorem dX3_start_31 : decode cX3_start 31 = .ok (.aload_n 0, 1) := by decide +kernel
theorem dX3_start_32 : decode cX3_start 32 = .ok (.iconst 0, 1) := by decide +kernel
theorem dX3_start_33 : decode cX3_start 33 = .ok (.putfield 50, 3) := by decide +kernel
theorem dX3_start_36 : decode cX3_start 36 = .ok (.aload_n 0, 1) := by decide +kernel
theorem dX3_start_37 : decode cX3_start 37 = .ok (.iconst 0, 1) := by decide +kernel
theorem dX3_start_38 : decode cX3_start 38 = .ok (.putfield 53, 3) := by decide +kernel
theorem dX3_start_41 : decode cX3_start 41 = .ok (.aload_n 0, 1) := by decide +kernel
theorem dX3_start_42 : decode cX3_start 42 = .ok (.invokevirtual 56, 3) := by decide +kernel
theorem dX3_start_45 : decode cX3_start 45 = .ok (.aload_n 1, 1) := by decide +kernel
theorem dX3_start_46 : decode cX3_start 46 = .ok (.aload_n 0, 1) := by decide +kernel
theorem dX3_start_47 : decode cX3_start 47 = .ok (.getfield 15, 3) := by decide +kernel
theorem dX3_start_50 : decode cX3_start 50 = .ok (.aload_n 0, 1) := by decide +kernel
theorem dX3_start_51 : decode cX3_start 51 = .ok (.getfield 41, 3) := by decide +kernel
theorem dX3_start_54 : decode cX3_start 54 = .ok (.iconst 0, 1) := by decide +kernel
theorem dX3_start_55 : decode cX3_start 55 = .ok (.aload_n 0, 1) := by decide +kernel
theorem dX3_start_56 : decode cX3_start 56 = .ok (.getfield 18, 3) := by decide +kernel
theorem dX3_start_59 : decode cX3_start 59 = .ok (.invokestatic 59, 3) := by decide +kernel
theorem dX3_start_62 : decode cX3_start 62 = .ok (.aload_n 0, 1) := by decide +kernel
theorem dX3_start_63 : decode cX3_start 63 = .ok (.aload_n 0, 1) := by decide +kernel
theorem dX3_start_64 : decode cX3_start 64 = .ok (.getfield 30, 3) := by decide +kernel
theorem dX3_start_67 : decode cX3_start 67 = .ok (.ifCond .eq 10, 3) := by decide +kernel
theorem dX3_start_70 : decode cX3_start 70 = .ok (.aload_n 0, 1) := by decide +kernel
theorem dX3_start_71 : decode cX3_start 71 = .ok (.invokevirtual 65, 3) := by decide +kernel
theorem dX3_start_74 : decode cX3_start 74 = .ok (.goto 4, 3) := by decide +kernel
theorem dX3_start_77 : decode cX3_start 77 = .ok (.iconst 0, 1) := by decide +kernel
theorem dX3_start_78 : decode cX3_start 78 = .ok (.putfield 24, 3) := by decide +kernel
theorem dX3_start_81 : decode cX3_start 81 = .ok (.return_, 1) := by decide +kernel
theorem dX3_measured_0 : decode cX3_measured 0 = .ok (.aload_n 0, 1) := by decide +kernel
theorem dX3_measured_1 : decode cX3_measured 1 = .ok (.getfield 15, 3) := by decide +kernel
theorem dX3_measured_4 : decode cX3_measured 4 = .ok (.aload_n 0, 1) := by decide +kernel
theorem dX3_measured_5 : decode cX3_measured 5 = .ok (.getfield 18, 3) := by decide +kernel
theorem dX3_measured_8 : decode cX3_measured 8 = .ok (.invokestatic 69, 3) := by decide +kernel
theorem dX3_measured_11 : decode cX3_measured 11 = .ok (.istore_n 1, 1) := by decide +kernel
theorem dX3_measured_12 : decode cX3_measured 12 = .ok (.iconst 0, 1) := by decide +kernel
theorem dX3_measured_13 : decode cX3_measured 13 = .ok (.istore_n 2, 1) := by decide +kernel
theorem dX3_measured_14 : decode cX3_measured 14 = .ok (.iload_n 2, 1) := by decide +kernel
theorem dX3_measured_15 : decode cX3_measured 15 = .ok (.aload_n 0, 1) := by decide +kernel
theorem dX3_measured_16 : decode cX3_measured 16 = .ok (.getfield 18, 3) := by decide +kernel
theorem dX3_measured_19 : decode cX3_measured 19 = .ok (.if_icmp .ge 20, 3) := by decide +kernel
theorem dX3_measured_22 : decode cX3_measured 22 = .ok (.iload_n 1, 1) := by decide +kernel
theorem dX3_measured_23 : decode cX3_measured 23 = .ok (.aload_n 0, 1) := by decide +kernel
theorem dX3_measured_24 : decode cX3_measured 24 = .ok (.getfield 41, 3) := by decide +kernel
theorem dX3_measured_27 : decode cX3_measured 27 = .ok (.iload_n 2, 1) := by decide +kernel
theorem dX3_measured_28 : decode cX3_measured 28 = .ok (.iaload, 1) := by decide +kernel
theorem dX3_measured_29 : decode cX3_measured 29 = .ok (.invokestatic 69, 3) := by decide +kernel
theorem dX3_measured_32 : decode cX3_measured 32 = .ok (.istore_n 1, 1) := by decide +kernel
theorem dX3_measured_33 : decode cX3_measured 33 = .ok (.iinc 2 1, 3) := by decide +kernel
theorem dX3_measured_36 : decode cX3_measured 36 = .ok (.goto (-22), 3) := by decide +kernel
theorem dX3_measured_39 : decode cX3_measured 39 = .ok (.iload_n 1, 1) := by decide +kernel
theorem dX3_measured_40 : decode cX3_measured 40 = .ok (.ireturn, 1) := by decide +kernel
theorem dX3_clearRegisters_0 : decode cX3_clearRegisters 0 = .ok (.aload_n 0, 1) := by decide +kernel
theorem dX3_clearRegisters_1 : decode cX3_clearRegisters 1 = .ok (.iconst 0, 1) := by decide +kernel
theorem dX3_clearRegisters_2 : decode cX3_clearRegisters 2 = .ok (.putfield 27, 3) := by decide +kernel
theorem dX3_clearRegisters_5 : decode cX3_clearRegisters 5 = .ok (.iconst 0, 1) := by decide +kernel
theorem dX3_clearRegisters_6 : decode cX3_clearRegisters 6 = .ok (.istore_n 1, 1) := by decide +kernel
theorem dX3_clearRegisters_7 : decode cX3_clearRegisters 7 = .ok (.iload_n 1, 1) := by decide +kernel
theorem dX3_clearRegisters_8 : decode cX3_clearRegisters 8 = .ok (.bipush 16, 2) := by decide +kernel
theorem dX3_clearRegisters_10 : decode cX3_clearRegisters 10 = .ok (.if_icmp .ge 16, 3) := by decide +kernel
theorem dX3_clearRegisters_13 : decode cX3_clearRegisters 13 = .ok (.aload_n 0, 1) := by decide +kernel
theorem dX3_clearRegisters_14 : decode cX3_clearRegisters 14 = .ok (.getfield 37, 3) := by decide +kernel
theorem dX3_clearRegisters_17 : decode cX3_clearRegisters 17 = .ok (.iload_n 1, 1) := by decide +kernel
theorem dX3_clearRegisters_18 : decode cX3_clearRegisters 18 = .ok (.iconst 0, 1) := by decide +kernel
theorem dX3_clearRegisters_19 : decode cX3_clearRegisters 19 = .ok (.iastore, 1) := by decide +kernel
theorem dX3_clearRegisters_20 : decode cX3_clearRegisters 20 = .ok (.iinc 1 1, 3) := by decide +kernel
theorem dX3_clearRegisters_23 : decode cX3_clearRegisters 23 = .ok (.goto (-16), 3) := by decide +kernel
theorem dX3_clearRegisters_26 : decode cX3_clearRegisters 26 = .ok (.return_, 1) := by decide +kernel
theorem dX3_overlaps_0 : decode cX3_overlaps 0 = .ok (.aload_n 0, 1) := by decide +kernel
theorem dX3_overlaps_1 : decode cX3_overlaps 1 = .ok (.getfield 18, 3) := by decide +kernel
theorem dX3_overlaps_4 : decode cX3_overlaps 4 = .ok (.ifCond .le 34, 3) := by decide +kernel
theorem dX3_overlaps_7 : decode cX3_overlaps 7 = .ok (.iload_n 2, 1) := by decide +kernel
theorem dX3_overlaps_8 : decode cX3_overlaps 8 = .ok (.ifCond .le 30, 3) := by decide +kernel
theorem dX3_overlaps_11 : decode cX3_overlaps 11 = .ok (.aload_n 0, 1) := by decide +kernel
theorem dX3_overlaps_12 : decode cX3_overlaps 12 = .ok (.getfield 15, 3) := by decide +kernel
theorem dX3_overlaps_15 : decode cX3_overlaps 15 = .ok (.iload_n 1, 1) := by decide +kernel
theorem dX3_overlaps_16 : decode cX3_overlaps 16 = .ok (.iload_n 2, 1) := by decide +kernel
theorem dX3_overlaps_17 : decode cX3_overlaps 17 = .ok (.iadd, 1) := by decide +kernel
theorem dX3_overlaps_18 : decode cX3_overlaps 18 = .ok (.if_icmp .ge 20, 3) := by decide +kernel
theorem dX3_overlaps_21 : decode cX3_overlaps 21 = .ok (.iload_n 1, 1) := by decide +kernel
theorem dX3_overlaps_22 : decode cX3_overlaps 22 = .ok (.aload_n 0, 1) := by decide +kernel
theorem dX3_overlaps_23 : decode cX3_overlaps 23 = .ok (.getfield 15, 3) := by decide +kernel
theorem dX3_overlaps_26 : decode cX3_overlaps 26 = .ok (.aload_n 0, 1) := by decide +kernel
theorem dX3_overlaps_27 : decode cX3_overlaps 27 = .ok (.getfield 18, 3) := by decide +kernel
theorem dX3_overlaps_30 : decode cX3_overlaps 30 = .ok (.iadd, 1) := by decide +kernel
theorem dX3_overlaps_31 : decode cX3_overlaps 31 = .ok (.if_icmp .ge 7, 3) := by decide +kernel
theorem dX3_overlaps_34 : decode cX3_overlaps 34 = .ok (.iconst 1, 1) := by decide +kernel
theorem dX3_overlaps_35 : decode cX3_overlaps 35 = .ok (.goto 4, 3) := by decide +kernel
theorem dX3_overlaps_38 : decode cX3_overlaps 38 = .ok (.iconst 0, 1) := by decide +kernel
theorem dX3_overlaps_39 : decode cX3_overlaps 39 = .ok (.ireturn, 1) := by decide +kernel
theorem dX3_holds_0 : decode cX3_holds 0 = .ok (.iload_n 1, 1) := by decide +kernel
theorem dX3_holds_1 : decode cX3_holds 1 = .ok (.iconst 0, 1) := by decide +kernel
theorem dX3_holds_2 : decode cX3_holds 2 = .ok (.iconst 4, 1) := by decide +kernel
theorem dX3_holds_3 : decode cX3_holds 3 = .ok (.aload_n 0, 1) := by decide +kernel
theorem dX3_holds_4 : decode cX3_holds 4 = .ok (.getfield 18, 3) := by decide +kernel
theorem dX3_holds_7 : decode cX3_holds 7 = .ok (.imul, 1) := by decide +kernel
theorem dX3_holds_8 : decode cX3_holds 8 = .ok (.iconst 4, 1) := by decide +kernel
theorem dX3_holds_9 : decode cX3_holds 9 = .ok (.isub, 1) := by decide +kernel
theorem dX3_holds_10 : decode cX3_holds 10 = .ok (.invokestatic 73, 3) := by decide +kernel
theorem dX3_holds_13 : decode cX3_holds 13 = .ok (.ireturn, 1) := by decide +kernel
theorem dX3_get_0 : decode cX3_get 0 = .ok (.iload_n 1, 1) := by decide +kernel
theorem dX3_get_1 : decode cX3_get 1 = .ok (.ifCond .le 18, 3) := by decide +kernel
theorem dX3_get_4 : decode cX3_get 4 = .ok (.iload_n 1, 1) := by decide +kernel
theorem dX3_get_5 : decode cX3_get 5 = .ok (.bipush 16, 2) := by decide +kernel
theorem dX3_get_7 : decode cX3_get 7 = .ok (.if_icmp .ge 12, 3) := by decide +kernel
theorem dX3_get_10 : decode cX3_get 10 = .ok (.aload_n 0, 1) := by decide +kernel
theorem dX3_get_11 : decode cX3_get 11 = .ok (.getfield 37, 3) := by decide +kernel
theorem dX3_get_14 : decode cX3_get 14 = .ok (.iload_n 1, 1) := by decide +kernel
theorem dX3_get_15 : decode cX3_get 15 = .ok (.iaload, 1) := by decide +kernel
theorem dX3_get_16 : decode cX3_get 16 = .ok (.goto 4, 3) := by decide +kernel
theorem dX3_get_19 : decode cX3_get 19 = .ok (.iconst 0, 1) := by decide +kernel
theorem dX3_get_20 : decode cX3_get 20 = .ok (.ireturn, 1) := by decide +kernel
theorem dX3_put_0 : decode cX3_put 0 = .ok (.iload_n 1, 1) := by decide +kernel
theorem dX3_put_1 : decode cX3_put 1 = .ok (.ifCond .le 16, 3) := by decide +kernel
theorem dX3_put_4 : decode cX3_put 4 = .ok (.iload_n 1, 1) := by decide +kernel
theorem dX3_put_5 : decode cX3_put 5 = .ok (.bipush 16, 2) := by decide +kernel
theorem dX3_put_7 : decode cX3_put 7 = .ok (.if_icmp .ge 10, 3) := by decide +kernel
theorem dX3_put_10 : decode cX3_put 10 = .ok (.aload_n 0, 1) := by decide +kernel
theorem dX3_put_11 : decode cX3_put 11 = .ok (.getfield 37, 3) := by decide +kernel
theorem dX3_put_14 : decode cX3_put 14 = .ok (.iload_n 1, 1) := by decide +kernel
theorem dX3_put_15 : decode cX3_put 15 = .ok (.iload_n 2, 1) := by decide +kernel
theorem dX3_put_16 : decode cX3_put 16 = .ok (.iastore, 1) := by decide +kernel
theorem dX3_put_17 : decode cX3_put 17 = .ok (.return_, 1) := by decide +kernel
theorem dX3_noteBegun_0 : decode cX3_noteBegun 0 = .ok (.aload_n 0, 1) := by decide +kernel
theorem dX3_noteBegun_1 : decode cX3_noteBegun 1 = .ok (.dup, 1) := by decide +kernel
theorem dX3_noteBegun_2 : decode cX3_noteBegun 2 = .ok (.getfield 53, 3) := by decide +kernel
theorem dX3_noteBegun_5 : decode cX3_noteBegun 5 = .ok (.iconst 1, 1) := by decide +kernel
theorem dX3_noteBegun_6 : decode cX3_noteBegun 6 = .ok (.iadd, 1) := by decide +kernel
theorem dX3_noteBegun_7 : decode cX3_noteBegun 7 = .ok (.putfield 53, 3) := by decide +kernel
theorem dX3_noteBegun_10 : decode cX3_noteBegun 10 = .ok (.return_, 1) := by decide +kernel
theorem dX3_suffer_0 : decode cX3_suffer 0 = .ok (.aload_n 0, 1) := by decide +kernel
theorem dX3_suffer_1 : decode cX3_suffer 1 = .ok (.dup, 1) := by decide +kernel
theorem dX3_suffer_2 : decode cX3_suffer 2 = .ok (.getfield 44, 3) := by decide +kernel
theorem dX3_suffer_5 : decode cX3_suffer 5 = .ok (.iconst 1, 1) := by decide +kernel
theorem dX3_suffer_6 : decode cX3_suffer 6 = .ok (.iadd, 1) := by decide +kernel
theorem dX3_suffer_7 : decode cX3_suffer 7 = .ok (.putfield 44, 3) := by decide +kernel
theorem dX3_suffer_10 : decode cX3_suffer 10 = .ok (.aload_n 0, 1) := by decide +kernel
theorem dX3_suffer_11 : decode cX3_suffer 11 = .ok (.iload_n 1, 1) := by decide +kernel
theorem dX3_suffer_12 : decode cX3_suffer 12 = .ok (.putfield 47, 3) := by decide +kernel
theorem dX3_suffer_15 : decode cX3_suffer 15 = .ok (.aload_n 0, 1) := by decide +kernel
theorem dX3_suffer_16 : decode cX3_suffer 16 = .ok (.getfield 21, 3) := by decide +kernel
theorem dX3_suffer_19 : decode cX3_suffer 19 = .ok (.iconst 2, 1) := by decide +kernel
theorem dX3_suffer_20 : decode cX3_suffer 20 = .ok (.if_icmp .ne 16, 3) := by decide +kernel
theorem dX3_suffer_23 : decode cX3_suffer 23 = .ok (.aload_n 0, 1) := by decide +kernel
theorem dX3_suffer_24 : decode cX3_suffer 24 = .ok (.dup, 1) := by decide +kernel
theorem dX3_suffer_25 : decode cX3_suffer 25 = .ok (.getfield 27, 3) := by decide +kernel
theorem dX3_suffer_28 : decode cX3_suffer 28 = .ok (.iconst 4, 1) := by decide +kernel
theorem dX3_suffer_29 : decode cX3_suffer 29 = .ok (.iadd, 1) := by decide +kernel
theorem dX3_suffer_30 : decode cX3_suffer 30 = .ok (.putfield 27, 3) := by decide +kernel
theorem dX3_suffer_33 : decode cX3_suffer 33 = .ok (.goto 32, 3) := by decide +kernel
theorem dX3_suffer_36 : decode cX3_suffer 36 = .ok (.aload_n 0, 1) := by decide +kernel
theorem dX3_suffer_37 : decode cX3_suffer 37 = .ok (.getfield 21, 3) := by decide +kernel
theorem dX3_suffer_40 : decode cX3_suffer 40 = .ok (.iconst 1, 1) := by decide +kernel
theorem dX3_suffer_41 : decode cX3_suffer 41 = .ok (.if_icmp .ne 19, 3) := by decide +kernel
theorem dX3_suffer_44 : decode cX3_suffer 44 = .ok (.aload_n 0, 1) := by decide +kernel
theorem dX3_suffer_45 : decode cX3_suffer 45 = .ok (.getfield 50, 3) := by decide +kernel
theorem dX3_suffer_48 : decode cX3_suffer 48 = .ok (.iconst 3, 1) := by decide +kernel
theorem dX3_suffer_49 : decode cX3_suffer 49 = .ok (.if_icmp .ge 11, 3) := by decide +kernel
theorem dX3_suffer_52 : decode cX3_suffer 52 = .ok (.aload_n 0, 1) := by decide +kernel
theorem dX3_suffer_53 : decode cX3_suffer 53 = .ok (.aload_n 2, 1) := by decide +kernel
theorem dX3_suffer_54 : decode cX3_suffer 54 = .ok (.invokevirtual 77, 3) := by decide +kernel
theorem dX3_suffer_57 : decode cX3_suffer 57 = .ok (.goto 8, 3) := by decide +kernel
theorem dX3_suffer_60 : decode cX3_suffer 60 = .ok (.aload_n 0, 1) := by decide +kernel
theorem dX3_suffer_61 : decode cX3_suffer 61 = .ok (.iconst 0, 1) := by decide +kernel
theorem dX3_suffer_62 : decode cX3_suffer 62 = .ok (.putfield 30, 3) := by decide +kernel
theorem dX3_suffer_65 : decode cX3_suffer 65 = .ok (.return_, 1) := by decide +kernel
theorem dX3_restart_0 : decode cX3_restart 0 = .ok (.aload_n 0, 1) := by decide +kernel
theorem dX3_restart_1 : decode cX3_restart 1 = .ok (.dup, 1) := by decide +kernel
theorem dX3_restart_2 : decode cX3_restart 2 = .ok (.getfield 50, 3) := by decide +kernel
theorem dX3_restart_5 : decode cX3_restart 5 = .ok (.iconst 1, 1) := by decide +kernel
theorem dX3_restart_6 : decode cX3_restart 6 = .ok (.iadd, 1) := by decide +kernel
theorem dX3_restart_7 : decode cX3_restart 7 = .ok (.putfield 50, 3) := by decide +kernel
theorem dX3_restart_10 : decode cX3_restart 10 = .ok (.aload_n 0, 1) := by decide +kernel
theorem dX3_restart_11 : decode cX3_restart 11 = .ok (.getfield 41, 3) := by decide +kernel
theorem dX3_restart_14 : decode cX3_restart 14 = .ok (.iconst 0, 1) := by decide +kernel
theorem dX3_restart_15 : decode cX3_restart 15 = .ok (.aload_n 1, 1) := by decide +kernel
theorem dX3_restart_16 : decode cX3_restart 16 = .ok (.aload_n 0, 1) := by decide +kernel
theorem dX3_restart_17 : decode cX3_restart 17 = .ok (.getfield 15, 3) := by decide +kernel
theorem dX3_restart_20 : decode cX3_restart 20 = .ok (.aload_n 0, 1) := by decide +kernel
theorem dX3_restart_21 : decode cX3_restart 21 = .ok (.getfield 18, 3) := by decide +kernel
theorem dX3_restart_24 : decode cX3_restart 24 = .ok (.invokestatic 59, 3) := by decide +kernel
theorem dX3_restart_27 : decode cX3_restart 27 = .ok (.aload_n 0, 1) := by decide +kernel
theorem dX3_restart_28 : decode cX3_restart 28 = .ok (.invokevirtual 56, 3) := by decide +kernel
theorem dX3_restart_31 : decode cX3_restart 31 = .ok (.aload_n 0, 1) := by decide +kernel
theorem dX3_restart_32 : decode cX3_restart 32 = .ok (.iconst 1, 1) := by decide +kernel
theorem dX3_restart_33 : decode cX3_restart 33 = .ok (.putfield 34, 3) := by decide +kernel
theorem dX3_restart_36 : decode cX3_restart 36 = .ok (.return_, 1) := by decide +kernel
theorem dX3_sinceBooted_0 : decode cX3_sinceBooted 0 = .ok (.iload_n 1, 1) := by decide +kernel
theorem dX3_sinceBooted_1 : decode cX3_sinceBooted 1 = .ok (.tableswitch 68 0 4 #[35, 48, 53, 58, 63], 35) := by decide +kernel
theorem dX3_sinceBooted_36 : decode cX3_sinceBooted 36 = .ok (.aload_n 0, 1) := by decide +kernel
theorem dX3_sinceBooted_37 : decode cX3_sinceBooted 37 = .ok (.getfield 30, 3) := by decide +kernel
theorem dX3_sinceBooted_40 : decode cX3_sinceBooted 40 = .ok (.ifCond .eq 7, 3) := by decide +kernel
theorem dX3_sinceBooted_43 : decode cX3_sinceBooted 43 = .ok (.iconst 1, 1) := by decide +kernel
theorem dX3_sinceBooted_44 : decode cX3_sinceBooted 44 = .ok (.goto 4, 3) := by decide +kernel
theorem dX3_sinceBooted_47 : decode cX3_sinceBooted 47 = .ok (.iconst 0, 1) := by decide +kernel
theorem dX3_sinceBooted_48 : decode cX3_sinceBooted 48 = .ok (.ireturn, 1) := by decide +kernel
theorem dX3_sinceBooted_49 : decode cX3_sinceBooted 49 = .ok (.aload_n 0, 1) := by decide +kernel
theorem dX3_sinceBooted_50 : decode cX3_sinceBooted 50 = .ok (.getfield 44, 3) := by decide +kernel
theorem dX3_sinceBooted_53 : decode cX3_sinceBooted 53 = .ok (.ireturn, 1) := by decide +kernel
theorem dX3_sinceBooted_54 : decode cX3_sinceBooted 54 = .ok (.aload_n 0, 1) := by decide +kernel
theorem dX3_sinceBooted_55 : decode cX3_sinceBooted 55 = .ok (.getfield 47, 3) := by decide +kernel
theorem dX3_sinceBooted_58 : decode cX3_sinceBooted 58 = .ok (.ireturn, 1) := by decide +kernel
theorem dX3_sinceBooted_59 : decode cX3_sinceBooted 59 = .ok (.aload_n 0, 1) := by decide +kernel
theorem dX3_sinceBooted_60 : decode cX3_sinceBooted 60 = .ok (.getfield 50, 3) := by decide +kernel
theorem dX3_sinceBooted_63 : decode cX3_sinceBooted 63 = .ok (.ireturn, 1) := by decide +kernel
theorem dX3_sinceBooted_64 : decode cX3_sinceBooted 64 = .ok (.aload_n 0, 1) := by decide +kernel
theorem dX3_sinceBooted_65 : decode cX3_sinceBooted 65 = .ok (.getfield 53, 3) := by decide +kernel
theorem dX3_sinceBooted_68 : decode cX3_sinceBooted 68 = .ok (.ireturn, 1) := by decide +kernel
theorem dX3_sinceBooted_69 : decode cX3_sinceBooted 69 = .ok (.aload_n 0, 1) := by decide +kernel
theorem dX3_sinceBooted_70 : decode cX3_sinceBooted 70 = .ok (.getfield 24, 3) := by decide +kernel
theorem dX3_sinceBooted_73 : decode cX3_sinceBooted 73 = .ok (.ireturn, 1) := by decide +kernel
theorem dX7_init_0 : decode cX7_init 0 = .ok (.aload_n 0, 1) := by decide +kernel
theorem dX7_init_1 : decode cX7_init 1 = .ok (.invokespecial 1, 3) := by decide +kernel
theorem dX7_init_4 : decode cX7_init 4 = .ok (.aload_n 0, 1) := by decide +kernel
theorem dX7_init_5 : decode cX7_init 5 = .ok (.new 7, 3) := by decide +kernel
theorem dX7_init_8 : decode cX7_init 8 = .ok (.dup, 1) := by decide +kernel
theorem dX7_init_9 : decode cX7_init 9 = .ok (.iload_n 1, 1) := by decide +kernel
theorem dX7_init_10 : decode cX7_init 10 = .ok (.invokespecial 9, 3) := by decide +kernel
theorem dX7_init_13 : decode cX7_init 13 = .ok (.putfield 12, 3) := by decide +kernel
theorem dX7_init_16 : decode cX7_init 16 = .ok (.aload_n 0, 1) := by decide +kernel
theorem dX7_init_17 : decode cX7_init 17 = .ok (.new 18, 3) := by decide +kernel
theorem dX7_init_20 : decode cX7_init 20 = .ok (.dup, 1) := by decide +kernel
theorem dX7_init_21 : decode cX7_init 21 = .ok (.invokespecial 20, 3) := by decide +kernel
theorem dX7_init_24 : decode cX7_init 24 = .ok (.putfield 21, 3) := by decide +kernel
theorem dX7_init_27 : decode cX7_init 27 = .ok (.aload_n 0, 1) := by decide +kernel
theorem dX7_init_28 : decode cX7_init 28 = .ok (.iconst 0, 1) := by decide +kernel
theorem dX7_init_29 : decode cX7_init 29 = .ok (.putfield 25, 3) := by decide +kernel
theorem dX7_init_32 : decode cX7_init 32 = .ok (.aload_n 0, 1) := by decide +kernel
theorem dX7_init_33 : decode cX7_init 33 = .ok (.iconst 0, 1) := by decide +kernel
theorem dX7_init_34 : decode cX7_init 34 = .ok (.putfield 29, 3) := by decide +kernel
theorem dX7_init_37 : decode cX7_init 37 = .ok (.aload_n 0, 1) := by decide +kernel
theorem dX7_init_38 : decode cX7_init 38 = .ok (.iconst 0, 1) := by decide +kernel
theorem dX7_init_39 : decode cX7_init 39 = .ok (.putfield 33, 3) := by decide +kernel
theorem dX7_init_42 : decode cX7_init 42 = .ok (.return_, 1) := by decide +kernel
theorem dX7_region_0 : decode cX7_region 0 = .ok (.iload_n 1, 1) := by decide +kernel
theorem dX7_region_1 : decode cX7_region 1 = .ok (.invokestatic 36, 3) := by decide +kernel
theorem dX7_region_4 : decode cX7_region 4 = .ok (.ifCond .eq 35, 3) := by decide +kernel
theorem dX7_region_7 : decode cX7_region 7 = .ok (.iload_n 2, 1) := by decide +kernel
theorem dX7_region_8 : decode cX7_region 8 = .ok (.iconst 0, 1) := by decide +kernel
theorem dX7_region_9 : decode cX7_region 9 = .ok (.bipush 95, 2) := by decide +kernel
theorem dX7_region_11 : decode cX7_region 11 = .ok (.invokestatic 40, 3) := by decide +kernel
theorem dX7_region_14 : decode cX7_region 14 = .ok (.ifCond .eq 25, 3) := by decide +kernel
theorem dX7_region_17 : decode cX7_region 17 = .ok (.iload_n 3, 1) := by decide +kernel
theorem dX7_region_18 : decode cX7_region 18 = .ok (.iconst 0, 1) := by decide +kernel
theorem dX7_region_19 : decode cX7_region 19 = .ok (.bipush 32, 2) := by decide +kernel
theorem dX7_region_21 : decode cX7_region 21 = .ok (.invokestatic 40, 3) := by decide +kernel
theorem dX7_region_24 : decode cX7_region 24 = .ok (.ifCond .eq 15, 3) := by decide +kernel
theorem dX7_region_27 : decode cX7_region 27 = .ok (.iload_n 2, 1) := by decide +kernel
theorem dX7_region_28 : decode cX7_region 28 = .ok (.iload_n 3, 1) := by decide +kernel
theorem dX7_region_29 : decode cX7_region 29 = .ok (.iadd, 1) := by decide +kernel
theorem dX7_region_30 : decode cX7_region 30 = .ok (.bipush 96, 2) := by decide +kernel
theorem dX7_region_32 : decode cX7_region 32 = .ok (.if_icmp .gt 7, 3) := by decide +kernel
theorem dX7_region_35 : decode cX7_region 35 = .ok (.iconst 1, 1) := by decide +kernel
theorem dX7_region_36 : decode cX7_region 36 = .ok (.goto 4, 3) := by decide +kernel
theorem dX7_region_39 : decode cX7_region 39 = .ok (.iconst 0, 1) := by decide +kernel
theorem dX7_region_40 : decode cX7_region 40 = .ok (.invokestatic 44, 3) := by decide +kernel
theorem dX7_region_43 : decode cX7_region 43 = .ok (.aload_n 0, 1) := by decide +kernel
theorem dX7_region_44 : decode cX7_region 44 = .ok (.getfield 25, 3) := by decide +kernel
theorem dX7_region_47 : decode cX7_region 47 = .ok (.ifCond .ne 7, 3) := by decide +kernel
theorem dX7_region_50 : decode cX7_region 50 = .ok (.iconst 1, 1) := by decide +kernel
theorem dX7_region_51 : decode cX7_region 51 = .ok (.goto 4, 3) := by decide +kernel
theorem dX7_region_54 : decode cX7_region 54 = .ok (.iconst 0, 1) := by decide +kernel
theorem dX7_region_55 : decode cX7_region 55 = .ok (.invokestatic 48, 3) := by decide +kernel
theorem dX7_region_58 : decode cX7_region 58 = .ok (.aload_n 0, 1) := by decide +kernel
theorem dX7_region_59 : decode cX7_region 59 = .ok (.getfield 12, 3) := by decide +kernel
theorem dX7_region_62 : decode cX7_region 62 = .ok (.iload_n 1, 1) := by decide +kernel
theorem dX7_region_63 : decode cX7_region 63 = .ok (.iload_n 2, 1) := by decide +kernel
theorem dX7_region_64 : decode cX7_region 64 = .ok (.iload_n 3, 1) := by decide +kernel
theorem dX7_region_65 : decode cX7_region 65 = .ok (.invokevirtual 51, 3) := by decide +kernel
theorem dX7_region_68 : decode cX7_region 68 = .ok (.ifCond .eq 11, 3) := by decide +kernel
theorem dX7_region_71 : decode cX7_region 71 = .ok (.new 54, 3) := by decide +kernel
theorem dX7_region_74 : decode cX7_region 74 = .ok (.dup, 1) := by decide +kernel
theorem dX7_region_75 : decode cX7_region 75 = .ok (.invokespecial 56, 3) := by decide +kernel
theorem dX7_region_78 : decode cX7_region 78 = .ok (.athrow, 1) := by decide +kernel
theorem dX7_region_79 : decode cX7_region 79 = .ok (.aload_n 0, 1) := by decide +kernel
theorem dX7_region_80 : decode cX7_region 80 = .ok (.getfield 12, 3) := by decide +kernel
theorem dX7_region_83 : decode cX7_region 83 = .ok (.getfield 57, 3) := by decide +kernel
theorem dX7_region_86 : decode cX7_region 86 = .ok (.iload_n 1, 1) := by decide +kernel
theorem dX7_region_87 : decode cX7_region 87 = .ok (.aaload, 1) := by decide +kernel
theorem dX7_region_88 : decode cX7_region 88 = .ok (.astore 4, 2) := by decide +kernel
theorem dX7_region_90 : decode cX7_region 90 = .ok (.aload 4, 2) := by decide +kernel
theorem dX7_region_92 : decode cX7_region 92 = .ok (.iload_n 2, 1) := by decide +kernel
theorem dX7_region_93 : decode cX7_region 93 = .ok (.putfield 61, 3) := by decide +kernel
theorem dX7_region_96 : decode cX7_region 96 = .ok (.aload 4, 2) := by decide +kernel
theorem dX7_region_98 : decode cX7_region 98 = .ok (.iload_n 3, 1) := by decide +kernel
theorem dX7_region_99 : decode cX7_region 99 = .ok (.putfield 66, 3) := by decide +kernel
theorem dX7_region_102 : decode cX7_region 102 = .ok (.return_, 1) := by decide +kernel
theorem dX7_load_0 : decode cX7_load 0 = .ok (.iload_n 1, 1) := by decide +kernel
theorem dX7_load_1 : decode cX7_load 1 = .ok (.invokestatic 69, 3) := by decide +kernel
theorem dX7_load_4 : decode cX7_load 4 = .ok (.invokestatic 44, 3) := by decide +kernel
theorem dX7_load_7 : decode cX7_load 7 = .ok (.aload_n 0, 1) := by decide +kernel
theorem dX7_load_8 : decode cX7_load 8 = .ok (.getfield 25, 3) := by decide +kernel
theorem dX7_load_11 : decode cX7_load 11 = .ok (.ifCond .ne 7, 3) := by decide +kernel
theorem dX7_load_14 : decode cX7_load 14 = .ok (.iconst 1, 1) := by decide +kernel
theorem dX7_load_15 : decode cX7_load 15 = .ok (.goto 4, 3) := by decide +kernel
theorem dX7_load_18 : decode cX7_load 18 = .ok (.iconst 0, 1) := by decide +kernel
theorem dX7_load_19 : decode cX7_load 19 = .ok (.invokestatic 48, 3) := by decide +kernel
theorem dX7_load_22 : decode cX7_load 22 = .ok (.aload_n 0, 1) := by decide +kernel
theorem dX7_load_23 : decode cX7_load 23 = .ok (.getfield 12, 3) := by decide +kernel
theorem dX7_load_26 : decode cX7_load 26 = .ok (.getfield 72, 3) := by decide +kernel
theorem dX7_load_29 : decode cX7_load 29 = .ok (.iload_n 1, 1) := by decide +kernel
theorem dX7_load_30 : decode cX7_load 30 = .ok (.iload_n 2, 1) := by decide +kernel
theorem dX7_load_31 : decode cX7_load 31 = .ok (.iastore, 1) := by decide +kernel
theorem dX7_load_32 : decode cX7_load 32 = .ok (.return_, 1) := by decide +kernel
theorem dX7_policy_0 : decode cX7_policy 0 = .ok (.iload_n 1, 1) := by decide +kernel
theorem dX7_policy_1 : decode cX7_policy 1 = .ok (.invokestatic 36, 3) := by decide +kernel
theorem dX7_policy_4 : decode cX7_policy 4 = .ok (.ifCond .eq 16, 3) := by decide +kernel
theorem dX7_policy_7 : decode cX7_policy 7 = .ok (.iload_n 2, 1) := by decide +kernel
theorem dX7_policy_8 : decode cX7_policy 8 = .ok (.iconst 0, 1) := by decide +kernel
theorem dX7_policy_9 : decode cX7_policy 9 = .ok (.iconst 2, 1) := by decide +kernel
theorem dX7_policy_10 : decode cX7_policy 10 = .ok (.invokestatic 40, 3) := by decide +kernel
theorem dX7_policy_13 : decode cX7_policy 13 = .ok (.ifCond .eq 7, 3) := by decide +kernel
theorem dX7_policy_16 : decode cX7_policy 16 = .ok (.iconst 1, 1) := by decide +kernel
theorem dX7_policy_17 : decode cX7_policy 17 = .ok (.goto 4, 3) := by decide +kernel
theorem dX7_policy_20 : decode cX7_policy 20 = .ok (.iconst 0, 1) := by decide +kernel
theorem dX7_policy_21 : decode cX7_policy 21 = .ok (.invokestatic 44, 3) := by decide +kernel
theorem dX7_policy_24 : decode cX7_policy 24 = .ok (.aload_n 0, 1) := by decide +kernel
theorem dX7_policy_25 : decode cX7_policy 25 = .ok (.getfield 25, 3) := by decide +kernel
theorem dX7_policy_28 : decode cX7_policy 28 = .ok (.ifCond .ne 7, 3) := by decide +kernel
theorem dX7_policy_31 : decode cX7_policy 31 = .ok (.iconst 1, 1) := by decide +kernel
theorem dX7_policy_32 : decode cX7_policy 32 = .ok (.goto 4, 3) := by decide +kernel
theorem dX7_policy_35 : decode cX7_policy 35 = .ok (.iconst 0, 1) := by decide +kernel
theorem dX7_policy_36 : decode cX7_policy 36 = .ok (.invokestatic 48, 3) := by decide +kernel
theorem dX7_policy_39 : decode cX7_policy 39 = .ok (.aload_n 0, 1) := by decide +kernel
theorem dX7_policy_40 : decode cX7_policy 40 = .ok (.getfield 12, 3) := by decide +kernel
theorem dX7_policy_43 : decode cX7_policy 43 = .ok (.getfield 57, 3) := by decide +kernel
theorem dX7_policy_46 : decode cX7_policy 46 = .ok (.iload_n 1, 1) := by decide +kernel
theorem dX7_policy_47 : decode cX7_policy 47 = .ok (.aaload, 1) := by decide +kernel
theorem dX7_policy_48 : decode cX7_policy 48 = .ok (.iload_n 2, 1) := by decide +kernel
theorem dX7_policy_49 : decode cX7_policy 49 = .ok (.putfield 76, 3) := by decide +kernel
theorem dX7_policy_52 : decode cX7_policy 52 = .ok (.return_, 1) := by decide +kernel
theorem dX7_window_0 : decode cX7_window 0 = .ok (.iload_n 1, 1) := by decide +kernel
theorem dX7_window_1 : decode cX7_window 1 = .ok (.invokestatic 36, 3) := by decide +kernel
theorem dX7_window_4 : decode cX7_window 4 = .ok (.ifCond .eq 17, 3) := by decide +kernel
theorem dX7_window_7 : decode cX7_window 7 = .ok (.iload_n 2, 1) := by decide +kernel
theorem dX7_window_8 : decode cX7_window 8 = .ok (.iconst 1, 1) := by decide +kernel
theorem dX7_window_9 : decode cX7_window 9 = .ok (.bipush 20, 2) := by decide +kernel
theorem dX7_window_11 : decode cX7_window 11 = .ok (.invokestatic 40, 3) := by decide +kernel
theorem dX7_window_14 : decode cX7_window 14 = .ok (.ifCond .eq 7, 3) := by decide +kernel
theorem dX7_window_17 : decode cX7_window 17 = .ok (.iconst 1, 1) := by decide +kernel
theorem dX7_window_18 : decode cX7_window 18 = .ok (.goto 4, 3) := by decide +kernel
theorem dX7_window_21 : decode cX7_window 21 = .ok (.iconst 0, 1) := by decide +kernel
theorem dX7_window_22 : decode cX7_window 22 = .ok (.invokestatic 44, 3) := by decide +kernel
theorem dX7_window_25 : decode cX7_window 25 = .ok (.aload_n 0, 1) := by decide +kernel
theorem dX7_window_26 : decode cX7_window 26 = .ok (.getfield 25, 3) := by decide +kernel
theorem dX7_window_29 : decode cX7_window 29 = .ok (.ifCond .ne 19, 3) := by decide +kernel
theorem dX7_window_32 : decode cX7_window 32 = .ok (.aload_n 0, 1) := by decide +kernel
theorem dX7_window_33 : decode cX7_window 33 = .ok (.getfield 21, 3) := by decide +kernel
theorem dX7_window_36 : decode cX7_window 36 = .ok (.getfield 79, 3) := by decide +kernel
theorem dX7_window_39 : decode cX7_window 39 = .ok (.bipush 6, 2) := by decide +kernel
theorem dX7_window_41 : decode cX7_window 41 = .ok (.if_icmp .ge 7, 3) := by decide +kernel
theorem dX7_window_44 : decode cX7_window 44 = .ok (.iconst 1, 1) := by decide +kernel
theorem dX7_window_45 : decode cX7_window 45 = .ok (.goto 4, 3) := by decide +kernel
theorem dX7_window_48 : decode cX7_window 48 = .ok (.iconst 0, 1) := by decide +kernel
theorem dX7_window_49 : decode cX7_window 49 = .ok (.invokestatic 48, 3) := by decide +kernel
theorem dX7_window_52 : decode cX7_window 52 = .ok (.aload_n 0, 1) := by decide +kernel
theorem dX7_window_53 : decode cX7_window 53 = .ok (.getfield 21, 3) := by decide +kernel
theorem dX7_window_56 : decode cX7_window 56 = .ok (.iload_n 1, 1) := by decide +kernel
theorem dX7_window_57 : decode cX7_window 57 = .ok (.iload_n 2, 1) := by decide +kernel
theorem dX7_window_58 : decode cX7_window 58 = .ok (.invokevirtual 80, 3) := by decide +kernel
theorem dX7_window_61 : decode cX7_window 61 = .ok (.aload_n 0, 1) := by decide +kernel
theorem dX7_window_62 : decode cX7_window 62 = .ok (.getfield 21, 3) := by decide +kernel
theorem dX7_window_65 : decode cX7_window 65 = .ok (.getfield 79, 3) := by decide +kernel
theorem dX7_window_68 : decode cX7_window 68 = .ok (.ireturn, 1) := by decide +kernel
theorem dX7_channel_0 : decode cX7_channel 0 = .ok (.iload_n 1, 1) := by decide +kernel
theorem dX7_channel_1 : decode cX7_channel 1 = .ok (.invokestatic 84, 3) := by decide +kernel
theorem dX7_channel_4 : decode cX7_channel 4 = .ok (.ifCond .eq 37, 3) := by decide +kernel
theorem dX7_channel_7 : decode cX7_channel 7 = .ok (.iload_n 2, 1) := by decide +kernel
theorem dX7_channel_8 : decode cX7_channel 8 = .ok (.iconst (-1), 1) := by decide +kernel
theorem dX7_channel_9 : decode cX7_channel 9 = .ok (.iconst 3, 1) := by decide +kernel
theorem dX7_channel_10 : decode cX7_channel 10 = .ok (.invokestatic 40, 3) := by decide +kernel
theorem dX7_channel_13 : decode cX7_channel 13 = .ok (.ifCond .eq 28, 3) := by decide +kernel
theorem dX7_channel_16 : decode cX7_channel 16 = .ok (.iload_n 3, 1) := by decide +kernel
theorem dX7_channel_17 : decode cX7_channel 17 = .ok (.iconst 0, 1) := by decide +kernel
theorem dX7_channel_18 : decode cX7_channel 18 = .ok (.bipush 15, 2) := by decide +kernel
theorem dX7_channel_20 : decode cX7_channel 20 = .ok (.invokestatic 40, 3) := by decide +kernel
theorem dX7_channel_23 : decode cX7_channel 23 = .ok (.ifCond .eq 18, 3) := by decide +kernel
theorem dX7_channel_26 : decode cX7_channel 26 = .ok (.iload 4, 2) := by decide +kernel
theorem dX7_channel_28 : decode cX7_channel 28 = .ok (.iconst 1, 1) := by decide +kernel
theorem dX7_channel_29 : decode cX7_channel 29 = .ok (.bipush 100, 2) := by decide +kernel
theorem dX7_channel_31 : decode cX7_channel 31 = .ok (.invokestatic 40, 3) := by decide +kernel
theorem dX7_channel_34 : decode cX7_channel 34 = .ok (.ifCond .eq 7, 3) := by decide +kernel
theorem dX7_channel_37 : decode cX7_channel 37 = .ok (.iconst 1, 1) := by decide +kernel
theorem dX7_channel_38 : decode cX7_channel 38 = .ok (.goto 4, 3) := by decide +kernel
theorem dX7_channel_41 : decode cX7_channel 41 = .ok (.iconst 0, 1) := by decide +kernel
theorem dX7_channel_42 : decode cX7_channel 42 = .ok (.invokestatic 44, 3) := by decide +kernel
theorem dX7_channel_45 : decode cX7_channel 45 = .ok (.aload_n 0, 1) := by decide +kernel
theorem dX7_channel_46 : decode cX7_channel 46 = .ok (.getfield 25, 3) := by decide +kernel
theorem dX7_channel_49 : decode cX7_channel 49 = .ok (.ifCond .ne 7, 3) := by decide +kernel
theorem dX7_channel_52 : decode cX7_channel 52 = .ok (.iconst 1, 1) := by decide +kernel
theorem dX7_channel_53 : decode cX7_channel 53 = .ok (.goto 4, 3) := by decide +kernel
theorem dX7_channel_56 : decode cX7_channel 56 = .ok (.iconst 0, 1) := by decide +kernel
theorem dX7_channel_57 : decode cX7_channel 57 = .ok (.invokestatic 48, 3) := by decide +kernel
theorem dX7_channel_60 : decode cX7_channel 60 = .ok (.aload_n 0, 1) := by decide +kernel
theorem dX7_channel_61 : decode cX7_channel 61 = .ok (.getfield 12, 3) := by decide +kernel
theorem dX7_channel_64 : decode cX7_channel 64 = .ok (.getfield 87, 3) := by decide +kernel
theorem dX7_channel_67 : decode cX7_channel 67 = .ok (.iload_n 1, 1) := by decide +kernel
theorem dX7_channel_68 : decode cX7_channel 68 = .ok (.aaload, 1) := by decide +kernel
theorem dX7_channel_69 : decode cX7_channel 69 = .ok (.astore 5, 2) := by decide +kernel
theorem dX7_channel_71 : decode cX7_channel 71 = .ok (.aload 5, 2) := by decide +kernel
theorem dX7_channel_73 : decode cX7_channel 73 = .ok (.iload_n 2, 1) := by decide +kernel
theorem dX7_channel_74 : decode cX7_channel 74 = .ok (.putfield 91, 3) := by decide +kernel
theorem dX7_channel_77 : decode cX7_channel 77 = .ok (.aload 5, 2) := by decide +kernel
theorem dX7_channel_79 : decode cX7_channel 79 = .ok (.iload_n 3, 1) := by decide +kernel
theorem dX7_channel_80 : decode cX7_channel 80 = .ok (.putfield 96, 3) := by decide +kernel
theorem dX7_channel_83 : decode cX7_channel 83 = .ok (.aload 5, 2) := by decide +kernel
theorem dX7_channel_85 : decode cX7_channel 85 = .ok (.iload 4, 2) := by decide +kernel
theorem dX7_channel_87 : decode cX7_channel 87 = .ok (.putfield 99, 3) := by decide +kernel
theorem dX7_channel_90 : decode cX7_channel 90 = .ok (.return_, 1) := by decide +kernel
theorem dX7_boot_0 : decode cX7_boot 0 = .ok (.aload_n 0, 1) := by decide +kernel
theorem dX7_boot_1 : decode cX7_boot 1 = .ok (.getfield 25, 3) := by decide +kernel
theorem dX7_boot_4 : decode cX7_boot 4 = .ok (.ifCond .ne 17, 3) := by decide +kernel
theorem dX7_boot_7 : decode cX7_boot 7 = .ok (.aload_n 0, 1) := by decide +kernel
theorem dX7_boot_8 : decode cX7_boot 8 = .ok (.getfield 21, 3) := by decide +kernel
theorem dX7_boot_11 : decode cX7_boot 11 = .ok (.getfield 79, 3) := by decide +kernel
theorem dX7_boot_14 : decode cX7_boot 14 = .ok (.ifCond .le 7, 3) := by decide +kernel
theorem dX7_boot_17 : decode cX7_boot 17 = .ok (.iconst 1, 1) := by decide +kernel
theorem dX7_boot_18 : decode cX7_boot 18 = .ok (.goto 4, 3) := by decide +kernel
theorem dX7_boot_21 : decode cX7_boot 21 = .ok (.iconst 0, 1) := by decide +kernel
theorem dX7_boot_22 : decode cX7_boot 22 = .ok (.invokestatic 48, 3) := by decide +kernel
theorem dX7_boot_25 : decode cX7_boot 25 = .ok (.aload_n 0, 1) := by decide +kernel
theorem dX7_boot_26 : decode cX7_boot 26 = .ok (.aload_n 0, 1) := by decide +kernel
theorem dX7_boot_27 : decode cX7_boot 27 = .ok (.getfield 12, 3) := by decide +kernel
theorem dX7_boot_30 : decode cX7_boot 30 = .ok (.invokevirtual 102, 3) := by decide +kernel
theorem dX7_boot_33 : decode cX7_boot 33 = .ok (.putfield 33, 3) := by decide +kernel
theorem dX7_boot_36 : decode cX7_boot 36 = .ok (.aload_n 0, 1) := by decide +kernel
theorem dX7_boot_37 : decode cX7_boot 37 = .ok (.getfield 21, 3) := by decide +kernel
theorem dX7_boot_40 : decode cX7_boot 40 = .ok (.invokevirtual 106, 3) := by decide +kernel
theorem dX7_boot_43 : decode cX7_boot 43 = .ok (.aload_n 0, 1) := by decide +kernel
theorem dX7_boot_44 : decode cX7_boot 44 = .ok (.iconst 1, 1) := by decide +kernel
theorem dX7_boot_45 : decode cX7_boot 45 = .ok (.putfield 25, 3) := by decide +kernel
theorem dX7_boot_48 : decode cX7_boot 48 = .ok (.aload_n 0, 1) := by decide +kernel
theorem dX7_boot_49 : decode cX7_boot 49 = .ok (.dup, 1) := by decide +kernel
theorem dX7_boot_50 : decode cX7_boot 50 = .ok (.getfield 29, 3) := by decide +kernel
theorem dX7_boot_53 : decode cX7_boot 53 = .ok (.iconst 1, 1) := by decide +kernel
theorem dX7_boot_54 : decode cX7_boot 54 = .ok (.iadd, 1) := by decide +kernel
theorem dX7_boot_55 : decode cX7_boot 55 = .ok (.putfield 29, 3) := by decide +kernel
theorem dX7_boot_58 : decode cX7_boot 58 = .ok (.aload_n 0, 1) := by decide +kernel
theorem dX7_boot_59 : decode cX7_boot 59 = .ok (.getfield 33, 3) := by decide +kernel
theorem dX7_boot_62 : decode cX7_boot 62 = .ok (.ireturn, 1) := by decide +kernel
theorem dX7_reset_0 : decode cX7_reset 0 = .ok (.aload_n 0, 1) := by decide +kernel
theorem dX7_reset_1 : decode cX7_reset 1 = .ok (.getfield 25, 3) := by decide +kernel
theorem dX7_reset_4 : decode cX7_reset 4 = .ok (.invokestatic 48, 3) := by decide +kernel
theorem dX7_reset_7 : decode cX7_reset 7 = .ok (.aload_n 0, 1) := by decide +kernel
theorem dX7_reset_8 : decode cX7_reset 8 = .ok (.iconst 0, 1) := by decide +kernel
theorem dX7_reset_9 : decode cX7_reset 9 = .ok (.putfield 25, 3) := by decide +kernel
theorem dX7_reset_12 : decode cX7_reset 12 = .ok (.return_, 1) := by decide +kernel
theorem dX7_run_0 : decode cX7_run 0 = .ok (.iload_n 1, 1) := by decide +kernel
theorem dX7_run_1 : decode cX7_run 1 = .ok (.iconst 1, 1) := by decide +kernel
theorem dX7_run_2 : decode cX7_run 2 = .ok (.sipush 400, 3) := by decide +kernel
theorem dX7_run_5 : decode cX7_run 5 = .ok (.invokestatic 40, 3) := by decide +kernel
theorem dX7_run_8 : decode cX7_run 8 = .ok (.invokestatic 44, 3) := by decide +kernel
theorem dX7_run_11 : decode cX7_run 11 = .ok (.aload_n 0, 1) := by decide +kernel
theorem dX7_run_12 : decode cX7_run 12 = .ok (.getfield 25, 3) := by decide +kernel
theorem dX7_run_15 : decode cX7_run 15 = .ok (.invokestatic 48, 3) := by decide +kernel
theorem dX7_run_18 : decode cX7_run 18 = .ok (.iconst 0, 1) := by decide +kernel
theorem dX7_run_19 : decode cX7_run 19 = .ok (.istore_n 2, 1) := by decide +kernel
theorem dX7_run_20 : decode cX7_run 20 = .ok (.iconst 0, 1) := by decide +kernel
theorem dX7_run_21 : decode cX7_run 21 = .ok (.istore_n 3, 1) := by decide +kernel
theorem dX7_run_22 : decode cX7_run 22 = .ok (.iload_n 3, 1) := by decide +kernel
theorem dX7_run_23 : decode cX7_run 23 = .ok (.iload_n 1, 1) := by decide +kernel
theorem dX7_run_24 : decode cX7_run 24 = .ok (.if_icmp .ge 19, 3) := by decide +kernel
theorem dX7_run_27 : decode cX7_run 27 = .ok (.aload_n 0, 1) := by decide +kernel
theorem dX7_run_28 : decode cX7_run 28 = .ok (.invokevirtual 108, 3) := by decide +kernel
theorem dX7_run_31 : decode cX7_run 31 = .ok (.ifCond .eq 6, 3) := by decide +kernel
theorem dX7_run_34 : decode cX7_run 34 = .ok (.iinc 2 1, 3) := by decide +kernel
theorem dX7_run_37 : decode cX7_run 37 = .ok (.iinc 3 1, 3) := by decide +kernel
theorem dX7_run_40 : decode cX7_run 40 = .ok (.goto (-18), 3) := by decide +kernel
theorem dX7_run_43 : decode cX7_run 43 = .ok (.iload_n 2, 1) := by decide +kernel
theorem dX7_run_44 : decode cX7_run 44 = .ok (.ireturn, 1) := by decide +kernel
theorem dX7_quote_0 : decode cX7_quote 0 = .ok (.aload_n 0, 1) := by decide +kernel
theorem dX7_quote_1 : decode cX7_quote 1 = .ok (.getfield 25, 3) := by decide +kernel
theorem dX7_quote_4 : decode cX7_quote 4 = .ok (.invokestatic 48, 3) := by decide +kernel
theorem dX7_quote_7 : decode cX7_quote 7 = .ok (.aload_n 0, 1) := by decide +kernel
theorem dX7_quote_8 : decode cX7_quote 8 = .ok (.getfield 12, 3) := by decide +kernel
theorem dX7_quote_11 : decode cX7_quote 11 = .ok (.getfield 112, 3) := by decide +kernel
theorem dX7_quote_14 : decode cX7_quote 14 = .ok (.iload_n 1, 1) := by decide +kernel
theorem dX7_quote_15 : decode cX7_quote 15 = .ok (.invokestatic 115, 3) := by decide +kernel
theorem dX7_quote_18 : decode cX7_quote 18 = .ok (.aload_n 0, 1) := by decide +kernel
theorem dX7_quote_19 : decode cX7_quote 19 = .ok (.getfield 33, 3) := by decide +kernel
theorem dX7_quote_22 : decode cX7_quote 22 = .ok (.invokestatic 115, 3) := by decide +kernel
theorem dX7_quote_25 : decode cX7_quote 25 = .ok (.ireturn, 1) := by decide +kernel
theorem dX7_register_0 : decode cX7_register 0 = .ok (.iload_n 1, 1) := by decide +kernel
theorem dX7_register_1 : decode cX7_register 1 = .ok (.invokestatic 36, 3) := by decide +kernel
theorem dX7_register_4 : decode cX7_register 4 = .ok (.ifCond .eq 17, 3) := by decide +kernel
theorem dX7_register_7 : decode cX7_register 7 = .ok (.iload_n 2, 1) := by decide +kernel
theorem dX7_register_8 : decode cX7_register 8 = .ok (.iconst 0, 1) := by decide +kernel
theorem dX7_register_9 : decode cX7_register 9 = .ok (.bipush 16, 2) := by decide +kernel
theorem dX7_register_11 : decode cX7_register 11 = .ok (.invokestatic 40, 3) := by decide +kernel
theorem dX7_register_14 : decode cX7_register 14 = .ok (.ifCond .eq 7, 3) := by decide +kernel
theorem dX7_register_17 : decode cX7_register 17 = .ok (.iconst 1, 1) := by decide +kernel
theorem dX7_register_18 : decode cX7_register 18 = .ok (.goto 4, 3) := by decide +kernel
theorem dX7_register_21 : decode cX7_register 21 = .ok (.iconst 0, 1) := by decide +kernel
theorem dX7_register_22 : decode cX7_register 22 = .ok (.invokestatic 44, 3) := by decide +kernel
theorem dX7_register_25 : decode cX7_register 25 = .ok (.aload_n 0, 1) := by decide +kernel
theorem dX7_register_26 : decode cX7_register 26 = .ok (.getfield 25, 3) := by decide +kernel
theorem dX7_register_29 : decode cX7_register 29 = .ok (.invokestatic 48, 3) := by decide +kernel
theorem dX7_register_32 : decode cX7_register 32 = .ok (.aload_n 0, 1) := by decide +kernel
theorem dX7_register_33 : decode cX7_register 33 = .ok (.getfield 12, 3) := by decide +kernel
theorem dX7_register_36 : decode cX7_register 36 = .ok (.getfield 57, 3) := by decide +kernel
theorem dX7_register_39 : decode cX7_register 39 = .ok (.iload_n 1, 1) := by decide +kernel
theorem dX7_register_40 : decode cX7_register 40 = .ok (.aaload, 1) := by decide +kernel
theorem dX7_register_41 : decode cX7_register 41 = .ok (.astore_n 3, 1) := by decide +kernel
theorem dX7_register_42 : decode cX7_register 42 = .ok (.iload_n 2, 1) := by decide +kernel
theorem dX7_register_43 : decode cX7_register 43 = .ok (.bipush 16, 2) := by decide +kernel
theorem dX7_register_45 : decode cX7_register 45 = .ok (.if_icmp .ne 10, 3) := by decide +kernel
theorem dX7_register_48 : decode cX7_register 48 = .ok (.aload_n 3, 1) := by decide +kernel
theorem dX7_register_49 : decode cX7_register 49 = .ok (.getfield 119, 3) := by decide +kernel
theorem dX7_register_52 : decode cX7_register 52 = .ok (.goto 8, 3) := by decide +kernel
theorem dX7_register_55 : decode cX7_register 55 = .ok (.aload_n 3, 1) := by decide +kernel
theorem dX7_register_56 : decode cX7_register 56 = .ok (.iload_n 2, 1) := by decide +kernel
theorem dX7_register_57 : decode cX7_register 57 = .ok (.invokevirtual 122, 3) := by decide +kernel
theorem dX7_register_60 : decode cX7_register 60 = .ok (.ireturn, 1) := by decide +kernel
theorem dX7_memory_0 : decode cX7_memory 0 = .ok (.iload_n 1, 1) := by decide +kernel
theorem dX7_memory_1 : decode cX7_memory 1 = .ok (.invokestatic 69, 3) := by decide +kernel
theorem dX7_memory_4 : decode cX7_memory 4 = .ok (.invokestatic 44, 3) := by decide +kernel
theorem dX7_memory_7 : decode cX7_memory 7 = .ok (.aload_n 0, 1) := by decide +kernel
theorem dX7_memory_8 : decode cX7_memory 8 = .ok (.getfield 12, 3) := by decide +kernel
theorem dX7_memory_11 : decode cX7_memory 11 = .ok (.getfield 72, 3) := by decide +kernel
theorem dX7_memory_14 : decode cX7_memory 14 = .ok (.iload_n 1, 1) := by decide +kernel
theorem dX7_memory_15 : decode cX7_memory 15 = .ok (.iaload, 1) := by decide +kernel
theorem dX7_memory_16 : decode cX7_memory 16 = .ok (.ireturn, 1) := by decide +kernel
theorem dX7_told_0 : decode cX7_told 0 = .ok (.iload_n 1, 1) := by decide +kernel
theorem dX7_told_1 : decode cX7_told 1 = .ok (.invokestatic 36, 3) := by decide +kernel
theorem dX7_told_4 : decode cX7_told 4 = .ok (.ifCond .eq 17, 3) := by decide +kernel
theorem dX7_told_7 : decode cX7_told 7 = .ok (.iload_n 2, 1) := by decide +kernel
theorem dX7_told_8 : decode cX7_told 8 = .ok (.iconst 0, 1) := by decide +kernel
theorem dX7_told_9 : decode cX7_told 9 = .ok (.bipush 8, 2) := by decide +kernel
theorem dX7_told_11 : decode cX7_told 11 = .ok (.invokestatic 40, 3) := by decide +kernel
theorem dX7_told_14 : decode cX7_told 14 = .ok (.ifCond .eq 7, 3) := by decide +kernel
theorem dX7_told_17 : decode cX7_told 17 = .ok (.iconst 1, 1) := by decide +kernel
theorem dX7_told_18 : decode cX7_told 18 = .ok (.goto 4, 3) := by decide +kernel
theorem dX7_told_21 : decode cX7_told 21 = .ok (.iconst 0, 1) := by decide +kernel
theorem dX7_told_22 : decode cX7_told 22 = .ok (.invokestatic 44, 3) := by decide +kernel
theorem dX7_told_25 : decode cX7_told 25 = .ok (.aload_n 0, 1) := by decide +kernel
theorem dX7_told_26 : decode cX7_told 26 = .ok (.getfield 12, 3) := by decide +kernel
theorem dX7_told_29 : decode cX7_told 29 = .ok (.getfield 57, 3) := by decide +kernel
theorem dX7_told_32 : decode cX7_told 32 = .ok (.iload_n 1, 1) := by decide +kernel
theorem dX7_told_33 : decode cX7_told 33 = .ok (.aaload, 1) := by decide +kernel
theorem dX7_told_34 : decode cX7_told 34 = .ok (.astore_n 3, 1) := by decide +kernel
theorem dX7_told_35 : decode cX7_told 35 = .ok (.iload_n 2, 1) := by decide +kernel
theorem dX7_told_36 : decode cX7_told 36 = .ok (.tableswitch 43 6 8 #[28, 33, 38], 28) := by decide +kernel
theorem dX7_told_64 : decode cX7_told 64 = .ok (.aload_n 3, 1) := by decide +kernel
theorem dX7_told_65 : decode cX7_told 65 = .ok (.getfield 76, 3) := by decide +kernel
theorem dX7_told_68 : decode cX7_told 68 = .ok (.ireturn, 1) := by decide +kernel
theorem dX7_told_69 : decode cX7_told 69 = .ok (.aload_n 3, 1) := by decide +kernel
theorem dX7_told_70 : decode cX7_told 70 = .ok (.getfield 61, 3) := by decide +kernel
theorem dX7_told_73 : decode cX7_told 73 = .ok (.ireturn, 1) := by decide +kernel
theorem dX7_told_74 : decode cX7_told 74 = .ok (.aload_n 3, 1) := by decide +kernel
theorem dX7_told_75 : decode cX7_told 75 = .ok (.getfield 66, 3) := by decide +kernel
theorem dX7_told_78 : decode cX7_told 78 = .ok (.ireturn, 1) := by decide +kernel
theorem dX7_told_79 : decode cX7_told 79 = .ok (.aload_n 0, 1) := by decide +kernel
theorem dX7_told_80 : decode cX7_told 80 = .ok (.getfield 25, 3) := by decide +kernel
theorem dX7_told_83 : decode cX7_told 83 = .ok (.ifCond .eq 11, 3) := by decide +kernel
theorem dX7_told_86 : decode cX7_told 86 = .ok (.aload_n 3, 1) := by decide +kernel
theorem dX7_told_87 : decode cX7_told 87 = .ok (.iload_n 2, 1) := by decide +kernel
theorem dX7_told_88 : decode cX7_told 88 = .ok (.invokevirtual 126, 3) := by decide +kernel
theorem dX7_told_91 : decode cX7_told 91 = .ok (.goto 4, 3) := by decide +kernel
theorem dX7_told_94 : decode cX7_told 94 = .ok (.iconst 0, 1) := by decide +kernel
theorem dX7_told_95 : decode cX7_told 95 = .ok (.ireturn, 1) := by decide +kernel
theorem dX7_object_0 : decode cX7_object 0 = .ok (.iload_n 1, 1) := by decide +kernel
theorem dX7_object_1 : decode cX7_object 1 = .ok (.invokestatic 84, 3) := by decide +kernel
theorem dX7_object_4 : decode cX7_object 4 = .ok (.ifCond .eq 16, 3) := by decide +kernel
theorem dX7_object_7 : decode cX7_object 7 = .ok (.iload_n 2, 1) := by decide +kernel
theorem dX7_object_8 : decode cX7_object 8 = .ok (.iconst 0, 1) := by decide +kernel
theorem dX7_object_9 : decode cX7_object 9 = .ok (.iconst 3, 1) := by decide +kernel
theorem dX7_object_10 : decode cX7_object 10 = .ok (.invokestatic 40, 3) := by decide +kernel
theorem dX7_object_13 : decode cX7_object 13 = .ok (.ifCond .eq 7, 3) := by decide +kernel
theorem dX7_object_16 : decode cX7_object 16 = .ok (.iconst 1, 1) := by decide +kernel
theorem dX7_object_17 : decode cX7_object 17 = .ok (.goto 4, 3) := by decide +kernel
theorem dX7_object_20 : decode cX7_object 20 = .ok (.iconst 0, 1) := by decide +kernel
theorem dX7_object_21 : decode cX7_object 21 = .ok (.invokestatic 44, 3) := by decide +kernel
theorem dX7_object_24 : decode cX7_object 24 = .ok (.iload_n 2, 1) := by decide +kernel
theorem dX7_object_25 : decode cX7_object 25 = .ok (.tableswitch 66 0 2 #[27, 40, 53], 27) := by decide +kernel
theorem dX7_object_52 : decode cX7_object 52 = .ok (.aload_n 0, 1) := by decide +kernel
theorem dX7_object_53 : decode cX7_object 53 = .ok (.getfield 12, 3) := by decide +kernel
theorem dX7_object_56 : decode cX7_object 56 = .ok (.getfield 87, 3) := by decide +kernel
theorem dX7_object_59 : decode cX7_object 59 = .ok (.iload_n 1, 1) := by decide +kernel
theorem dX7_object_60 : decode cX7_object 60 = .ok (.aaload, 1) := by decide +kernel
theorem dX7_object_61 : decode cX7_object 61 = .ok (.invokevirtual 129, 3) := by decide +kernel
theorem dX7_object_64 : decode cX7_object 64 = .ok (.ireturn, 1) := by decide +kernel
theorem dX7_object_65 : decode cX7_object 65 = .ok (.aload_n 0, 1) := by decide +kernel
theorem dX7_object_66 : decode cX7_object 66 = .ok (.getfield 12, 3) := by decide +kernel
theorem dX7_object_69 : decode cX7_object 69 = .ok (.getfield 87, 3) := by decide +kernel
theorem dX7_object_72 : decode cX7_object 72 = .ok (.iload_n 1, 1) := by decide +kernel
theorem dX7_object_73 : decode cX7_object 73 = .ok (.aaload, 1) := by decide +kernel
theorem dX7_object_74 : decode cX7_object 74 = .ok (.invokevirtual 132, 3) := by decide +kernel
theorem dX7_object_77 : decode cX7_object 77 = .ok (.ireturn, 1) := by decide +kernel
theorem dX7_object_78 : decode cX7_object 78 = .ok (.aload_n 0, 1) := by decide +kernel
theorem dX7_object_79 : decode cX7_object 79 = .ok (.getfield 12, 3) := by decide +kernel
theorem dX7_object_82 : decode cX7_object 82 = .ok (.getfield 135, 3) := by decide +kernel
theorem dX7_object_85 : decode cX7_object 85 = .ok (.iload_n 1, 1) := by decide +kernel
theorem dX7_object_86 : decode cX7_object 86 = .ok (.aaload, 1) := by decide +kernel
theorem dX7_object_87 : decode cX7_object 87 = .ok (.getfield 139, 3) := by decide +kernel
theorem dX7_object_90 : decode cX7_object 90 = .ok (.ireturn, 1) := by decide +kernel
theorem dX7_object_91 : decode cX7_object 91 = .ok (.aload_n 0, 1) := by decide +kernel
theorem dX7_object_92 : decode cX7_object 92 = .ok (.getfield 12, 3) := by decide +kernel
theorem dX7_object_95 : decode cX7_object 95 = .ok (.getfield 135, 3) := by decide +kernel
theorem dX7_object_98 : decode cX7_object 98 = .ok (.iload_n 1, 1) := by decide +kernel
theorem dX7_object_99 : decode cX7_object 99 = .ok (.aaload, 1) := by decide +kernel
theorem dX7_object_100 : decode cX7_object 100 = .ok (.getfield 144, 3) := by decide +kernel
theorem dX7_object_103 : decode cX7_object 103 = .ok (.ireturn, 1) := by decide +kernel
theorem dX7_count_0 : decode cX7_count 0 = .ok (.iload_n 1, 1) := by decide +kernel
theorem dX7_count_1 : decode cX7_count 1 = .ok (.tableswitch 165 0 7 #[47, 60, 79, 98, 117, 133, 152, 160], 47) := by decide +kernel
theorem dX7_count_48 : decode cX7_count 48 = .ok (.aload_n 0, 1) := by decide +kernel
theorem dX7_count_49 : decode cX7_count 49 = .ok (.getfield 25, 3) := by decide +kernel
theorem dX7_count_52 : decode cX7_count 52 = .ok (.ifCond .eq 7, 3) := by decide +kernel
theorem dX7_count_55 : decode cX7_count 55 = .ok (.iconst 1, 1) := by decide +kernel
theorem dX7_count_56 : decode cX7_count 56 = .ok (.goto 4, 3) := by decide +kernel
theorem dX7_count_59 : decode cX7_count 59 = .ok (.iconst 0, 1) := by decide +kernel
theorem dX7_count_60 : decode cX7_count 60 = .ok (.ireturn, 1) := by decide +kernel
theorem dX7_count_61 : decode cX7_count 61 = .ok (.aload_n 0, 1) := by decide +kernel
theorem dX7_count_62 : decode cX7_count 62 = .ok (.getfield 25, 3) := by decide +kernel
theorem dX7_count_65 : decode cX7_count 65 = .ok (.ifCond .eq 13, 3) := by decide +kernel
theorem dX7_count_68 : decode cX7_count 68 = .ok (.aload_n 0, 1) := by decide +kernel
theorem dX7_count_69 : decode cX7_count 69 = .ok (.getfield 12, 3) := by decide +kernel
theorem dX7_count_72 : decode cX7_count 72 = .ok (.getfield 147, 3) := by decide +kernel
theorem dX7_count_75 : decode cX7_count 75 = .ok (.goto 4, 3) := by decide +kernel
theorem dX7_count_78 : decode cX7_count 78 = .ok (.iconst 0, 1) := by decide +kernel
theorem dX7_count_79 : decode cX7_count 79 = .ok (.ireturn, 1) := by decide +kernel
theorem dX7_count_80 : decode cX7_count 80 = .ok (.aload_n 0, 1) := by decide +kernel
theorem dX7_count_81 : decode cX7_count 81 = .ok (.getfield 25, 3) := by decide +kernel
theorem dX7_count_84 : decode cX7_count 84 = .ok (.ifCond .eq 13, 3) := by decide +kernel
theorem dX7_count_87 : decode cX7_count 87 = .ok (.aload_n 0, 1) := by decide +kernel
theorem dX7_count_88 : decode cX7_count 88 = .ok (.getfield 21, 3) := by decide +kernel
theorem dX7_count_91 : decode cX7_count 91 = .ok (.getfield 150, 3) := by decide +kernel
theorem dX7_count_94 : decode cX7_count 94 = .ok (.goto 4, 3) := by decide +kernel
theorem dX7_count_97 : decode cX7_count 97 = .ok (.iconst 0, 1) := by decide +kernel
theorem dX7_count_98 : decode cX7_count 98 = .ok (.ireturn, 1) := by decide +kernel
theorem dX7_count_99 : decode cX7_count 99 = .ok (.aload_n 0, 1) := by decide +kernel
theorem dX7_count_100 : decode cX7_count 100 = .ok (.getfield 25, 3) := by decide +kernel
theorem dX7_count_103 : decode cX7_count 103 = .ok (.ifCond .eq 13, 3) := by decide +kernel
theorem dX7_count_106 : decode cX7_count 106 = .ok (.aload_n 0, 1) := by decide +kernel
theorem dX7_count_107 : decode cX7_count 107 = .ok (.getfield 21, 3) := by decide +kernel
theorem dX7_count_110 : decode cX7_count 110 = .ok (.getfield 153, 3) := by decide +kernel
theorem dX7_count_113 : decode cX7_count 113 = .ok (.goto 4, 3) := by decide +kernel
theorem dX7_count_116 : decode cX7_count 116 = .ok (.iconst 0, 1) := by decide +kernel
theorem dX7_count_117 : decode cX7_count 117 = .ok (.ireturn, 1) := by decide +kernel
theorem dX7_count_118 : decode cX7_count 118 = .ok (.aload_n 0, 1) := by decide +kernel
theorem dX7_count_119 : decode cX7_count 119 = .ok (.getfield 25, 3) := by decide +kernel
theorem dX7_count_122 : decode cX7_count 122 = .ok (.ifCond .eq 10, 3) := by decide +kernel
theorem dX7_count_125 : decode cX7_count 125 = .ok (.aload_n 0, 1) := by decide +kernel
theorem dX7_count_126 : decode cX7_count 126 = .ok (.getfield 33, 3) := by decide +kernel
theorem dX7_count_129 : decode cX7_count 129 = .ok (.goto 4, 3) := by decide +kernel
theorem dX7_count_132 : decode cX7_count 132 = .ok (.iconst 0, 1) := by decide +kernel
theorem dX7_count_133 : decode cX7_count 133 = .ok (.ireturn, 1) := by decide +kernel
theorem dX7_count_134 : decode cX7_count 134 = .ok (.aload_n 0, 1) := by decide +kernel
theorem dX7_count_135 : decode cX7_count 135 = .ok (.getfield 25, 3) := by decide +kernel
theorem dX7_count_138 : decode cX7_count 138 = .ok (.ifCond .eq 13, 3) := by decide +kernel
theorem dX7_count_141 : decode cX7_count 141 = .ok (.aload_n 0, 1) := by decide +kernel
theorem dX7_count_142 : decode cX7_count 142 = .ok (.getfield 21, 3) := by decide +kernel
theorem dX7_count_145 : decode cX7_count 145 = .ok (.getfield 156, 3) := by decide +kernel
theorem dX7_count_148 : decode cX7_count 148 = .ok (.goto 4, 3) := by decide +kernel
theorem dX7_count_151 : decode cX7_count 151 = .ok (.iconst 0, 1) := by decide +kernel
theorem dX7_count_152 : decode cX7_count 152 = .ok (.ireturn, 1) := by decide +kernel
theorem dX7_count_153 : decode cX7_count 153 = .ok (.aload_n 0, 1) := by decide +kernel
theorem dX7_count_154 : decode cX7_count 154 = .ok (.getfield 21, 3) := by decide +kernel
theorem dX7_count_157 : decode cX7_count 157 = .ok (.getfield 79, 3) := by decide +kernel
theorem dX7_count_160 : decode cX7_count 160 = .ok (.ireturn, 1) := by decide +kernel
theorem dX7_count_161 : decode cX7_count 161 = .ok (.aload_n 0, 1) := by decide +kernel
theorem dX7_count_162 : decode cX7_count 162 = .ok (.getfield 29, 3) := by decide +kernel
theorem dX7_count_165 : decode cX7_count 165 = .ok (.ireturn, 1) := by decide +kernel
theorem dX7_count_166 : decode cX7_count 166 = .ok (.iconst (-1), 1) := by decide +kernel
theorem dX7_count_167 : decode cX7_count 167 = .ok (.ireturn, 1) := by decide +kernel
theorem dX7_tick_0 : decode cX7_tick 0 = .ok (.aload_n 0, 1) := by decide +kernel
theorem dX7_tick_1 : decode cX7_tick 1 = .ok (.getfield 12, 3) := by decide +kernel
theorem dX7_tick_4 : decode cX7_tick 4 = .ok (.dup, 1) := by decide +kernel
theorem dX7_tick_5 : decode cX7_tick 5 = .ok (.getfield 147, 3) := by decide +kernel
theorem dX7_tick_8 : decode cX7_tick 8 = .ok (.iconst 1, 1) := by decide +kernel
theorem dX7_tick_9 : decode cX7_tick 9 = .ok (.iadd, 1) := by decide +kernel
theorem dX7_tick_10 : decode cX7_tick 10 = .ok (.putfield 147, 3) := by decide +kernel
theorem dX7_tick_13 : decode cX7_tick 13 = .ok (.aload_n 0, 1) := by decide +kernel
theorem dX7_tick_14 : decode cX7_tick 14 = .ok (.getfield 12, 3) := by decide +kernel
theorem dX7_tick_17 : decode cX7_tick 17 = .ok (.getfield 57, 3) := by decide +kernel
theorem dX7_tick_20 : decode cX7_tick 20 = .ok (.aload_n 0, 1) := by decide +kernel
theorem dX7_tick_21 : decode cX7_tick 21 = .ok (.getfield 21, 3) := by decide +kernel
theorem dX7_tick_24 : decode cX7_tick 24 = .ok (.invokevirtual 159, 3) := by decide +kernel
theorem dX7_tick_27 : decode cX7_tick 27 = .ok (.aaload, 1) := by decide +kernel
theorem dX7_tick_28 : decode cX7_tick 28 = .ok (.astore_n 1, 1) := by decide +kernel
theorem dX7_tick_29 : decode cX7_tick 29 = .ok (.aload_n 1, 1) := by decide +kernel
theorem dX7_tick_30 : decode cX7_tick 30 = .ok (.getfield 162, 3) := by decide +kernel
theorem dX7_tick_33 : decode cX7_tick 33 = .ok (.ifCond .eq 14, 3) := by decide +kernel
theorem dX7_tick_36 : decode cX7_tick 36 = .ok (.aload_n 1, 1) := by decide +kernel
theorem dX7_tick_37 : decode cX7_tick 37 = .ok (.getfield 165, 3) := by decide +kernel
theorem dX7_tick_40 : decode cX7_tick 40 = .ok (.ifCond .ne 7, 3) := by decide +kernel
theorem dX7_tick_43 : decode cX7_tick 43 = .ok (.iconst 1, 1) := by decide +kernel
theorem dX7_tick_44 : decode cX7_tick 44 = .ok (.goto 4, 3) := by decide +kernel
theorem dX7_tick_47 : decode cX7_tick 47 = .ok (.iconst 0, 1) := by decide +kernel
theorem dX7_tick_48 : decode cX7_tick 48 = .ok (.istore_n 2, 1) := by decide +kernel
theorem dX7_tick_49 : decode cX7_tick 49 = .ok (.iload_n 2, 1) := by decide +kernel
theorem dX7_tick_50 : decode cX7_tick 50 = .ok (.ifCond .eq 11, 3) := by decide +kernel
theorem dX7_tick_53 : decode cX7_tick 53 = .ok (.aload_n 0, 1) := by decide +kernel
theorem dX7_tick_54 : decode cX7_tick 54 = .ok (.getfield 12, 3) := by decide +kernel
theorem dX7_tick_57 : decode cX7_tick 57 = .ok (.aload_n 1, 1) := by decide +kernel
theorem dX7_tick_58 : decode cX7_tick 58 = .ok (.invokevirtual 168, 3) := by decide +kernel
theorem dX7_tick_61 : decode cX7_tick 61 = .ok (.aload_n 0, 1) := by decide +kernel
theorem dX7_tick_62 : decode cX7_tick 62 = .ok (.getfield 21, 3) := by decide +kernel
theorem dX7_tick_65 : decode cX7_tick 65 = .ok (.invokevirtual 172, 3) := by decide +kernel
theorem dX7_tick_68 : decode cX7_tick 68 = .ok (.ifCond .eq 22, 3) := by decide +kernel
theorem dX7_tick_71 : decode cX7_tick 71 = .ok (.aload_n 0, 1) := by decide +kernel
theorem dX7_tick_72 : decode cX7_tick 72 = .ok (.getfield 12, 3) := by decide +kernel
theorem dX7_tick_75 : decode cX7_tick 75 = .ok (.getfield 57, 3) := by decide +kernel
theorem dX7_tick_78 : decode cX7_tick 78 = .ok (.aload_n 0, 1) := by decide +kernel
theorem dX7_tick_79 : decode cX7_tick 79 = .ok (.getfield 21, 3) := by decide +kernel
theorem dX7_tick_82 : decode cX7_tick 82 = .ok (.invokevirtual 159, 3) := by decide +kernel
theorem dX7_tick_85 : decode cX7_tick 85 = .ok (.aaload, 1) := by decide +kernel
theorem dX7_tick_86 : decode cX7_tick 86 = .ok (.iconst 0, 1) := by decide +kernel
theorem dX7_tick_87 : decode cX7_tick 87 = .ok (.putfield 165, 3) := by decide +kernel
theorem dX7_tick_90 : decode cX7_tick 90 = .ok (.iload_n 2, 1) := by decide +kernel
theorem dX7_tick_91 : decode cX7_tick 91 = .ok (.ireturn, 1) := by decide +kernel
theorem dX7_mix_0 : decode cX7_mix 0 = .ok (.iload_n 0, 1) := by decide +kernel
theorem dX7_mix_1 : decode cX7_mix 1 = .ok (.bipush 31, 2) := by decide +kernel
theorem dX7_mix_3 : decode cX7_mix 3 = .ok (.imul, 1) := by decide +kernel
theorem dX7_mix_4 : decode cX7_mix 4 = .ok (.iload_n 1, 1) := by decide +kernel
theorem dX7_mix_5 : decode cX7_mix 5 = .ok (.iadd, 1) := by decide +kernel
theorem dX7_mix_6 : decode cX7_mix 6 = .ok (.ldc 175, 2) := by decide +kernel
theorem dX7_mix_8 : decode cX7_mix 8 = .ok (.imul, 1) := by decide +kernel
theorem dX7_mix_9 : decode cX7_mix 9 = .ok (.istore_n 2, 1) := by decide +kernel
theorem dX7_mix_10 : decode cX7_mix 10 = .ok (.iload_n 2, 1) := by decide +kernel
theorem dX7_mix_11 : decode cX7_mix 11 = .ok (.iload_n 2, 1) := by decide +kernel
theorem dX7_mix_12 : decode cX7_mix 12 = .ok (.bipush 15, 2) := by decide +kernel
theorem dX7_mix_14 : decode cX7_mix 14 = .ok (.iushr, 1) := by decide +kernel
theorem dX7_mix_15 : decode cX7_mix 15 = .ok (.ixor, 1) := by decide +kernel
theorem dX7_mix_16 : decode cX7_mix 16 = .ok (.ireturn, 1) := by decide +kernel
theorem dX7_within_0 : decode cX7_within 0 = .ok (.iload_n 0, 1) := by decide +kernel
theorem dX7_within_1 : decode cX7_within 1 = .ok (.iload_n 1, 1) := by decide +kernel
theorem dX7_within_2 : decode cX7_within 2 = .ok (.if_icmp .lt 12, 3) := by decide +kernel
theorem dX7_within_5 : decode cX7_within 5 = .ok (.iload_n 0, 1) := by decide +kernel
theorem dX7_within_6 : decode cX7_within 6 = .ok (.iload_n 2, 1) := by decide +kernel
theorem dX7_within_7 : decode cX7_within 7 = .ok (.if_icmp .gt 7, 3) := by decide +kernel
theorem dX7_within_10 : decode cX7_within 10 = .ok (.iconst 1, 1) := by decide +kernel
theorem dX7_within_11 : decode cX7_within 11 = .ok (.goto 4, 3) := by decide +kernel
theorem dX7_within_14 : decode cX7_within 14 = .ok (.iconst 0, 1) := by decide +kernel
theorem dX7_within_15 : decode cX7_within 15 = .ok (.ireturn, 1) := by decide +kernel
theorem dX7_isPartition_0 : decode cX7_isPartition 0 = .ok (.iload_n 0, 1) := by decide +kernel
theorem dX7_isPartition_1 : decode cX7_isPartition 1 = .ok (.iconst 0, 1) := by decide +kernel
theorem dX7_isPartition_2 : decode cX7_isPartition 2 = .ok (.iconst 3, 1) := by decide +kernel
theorem dX7_isPartition_3 : decode cX7_isPartition 3 = .ok (.invokestatic 40, 3) := by decide +kernel
theorem dX7_isPartition_6 : decode cX7_isPartition 6 = .ok (.ireturn, 1) := by decide +kernel
theorem dX7_isChannel_0 : decode cX7_isChannel 0 = .ok (.iload_n 0, 1) := by decide +kernel
theorem dX7_isChannel_1 : decode cX7_isChannel 1 = .ok (.iconst 0, 1) := by decide +kernel
theorem dX7_isChannel_2 : decode cX7_isChannel 2 = .ok (.iconst 3, 1) := by decide +kernel
theorem dX7_isChannel_3 : decode cX7_isChannel 3 = .ok (.invokestatic 40, 3) := by decide +kernel
theorem dX7_isChannel_6 : decode cX7_isChannel 6 = .ok (.ireturn, 1) := by decide +kernel
theorem dX7_isWord_0 : decode cX7_isWord 0 = .ok (.iload_n 0, 1) := by decide +kernel
theorem dX7_isWord_1 : decode cX7_isWord 1 = .ok (.iconst 0, 1) := by decide +kernel
theorem dX7_isWord_2 : decode cX7_isWord 2 = .ok (.bipush 95, 2) := by decide +kernel
theorem dX7_isWord_4 : decode cX7_isWord 4 = .ok (.invokestatic 40, 3) := by decide +kernel
theorem dX7_isWord_7 : decode cX7_isWord 7 = .ok (.ireturn, 1) := by decide +kernel
theorem dX7_refuseBadUnless_0 : decode cX7_refuseBadUnless 0 = .ok (.iload_n 0, 1) := by decide +kernel
theorem dX7_refuseBadUnless_1 : decode cX7_refuseBadUnless 1 = .ok (.ifCond .ne 11, 3) := by decide +kernel
theorem dX7_refuseBadUnless_4 : decode cX7_refuseBadUnless 4 = .ok (.new 176, 3) := by decide +kernel
theorem dX7_refuseBadUnless_7 : decode cX7_refuseBadUnless 7 = .ok (.dup, 1) := by decide +kernel
theorem dX7_refuseBadUnless_8 : decode cX7_refuseBadUnless 8 = .ok (.invokespecial 178, 3) := by decide +kernel
theorem dX7_refuseBadUnless_11 : decode cX7_refuseBadUnless 11 = .ok (.athrow, 1) := by decide +kernel
theorem dX7_refuseBadUnless_12 : decode cX7_refuseBadUnless 12 = .ok (.return_, 1) := by decide +kernel
theorem dX7_refuseNowUnless_0 : decode cX7_refuseNowUnless 0 = .ok (.iload_n 0, 1) := by decide +kernel
theorem dX7_refuseNowUnless_1 : decode cX7_refuseNowUnless 1 = .ok (.ifCond .ne 11, 3) := by decide +kernel
theorem dX7_refuseNowUnless_4 : decode cX7_refuseNowUnless 4 = .ok (.new 179, 3) := by decide +kernel
theorem dX7_refuseNowUnless_7 : decode cX7_refuseNowUnless 7 = .ok (.dup, 1) := by decide +kernel
theorem dX7_refuseNowUnless_8 : decode cX7_refuseNowUnless 8 = .ok (.invokespecial 181, 3) := by decide +kernel
theorem dX7_refuseNowUnless_11 : decode cX7_refuseNowUnless 11 = .ok (.athrow, 1) := by decide +kernel
theorem dX7_refuseNowUnless_12 : decode cX7_refuseNowUnless 12 = .ok (.return_, 1) := by decide +kernel

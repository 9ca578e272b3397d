theorem dX0_init_0 : decode cX0_init 0 = .ok (.aload_n 0, 1) := by decide +kernel
theorem dX0_init_1 : decode cX0_init 1 = .ok (.invokespecial 3, 3) := by decide +kernel
theorem dX0_init_4 : decode cX0_init 4 = .ok (.aload_n 0, 1) := by decide +kernel
theorem dX0_init_5 : decode cX0_init 5 = .ok (.iconst (-1), 1) := by decide +kernel
theorem dX0_init_6 : decode cX0_init 6 = .ok (.putfield 9, 3) := by decide +kernel
theorem dX0_init_9 : decode cX0_init 9 = .ok (.aload_n 0, 1) := by decide +kernel
theorem dX0_init_10 : decode cX0_init 10 = .ok (.iconst 0, 1) := by decide +kernel
theorem dX0_init_11 : decode cX0_init 11 = .ok (.putfield 15, 3) := by decide +kernel
theorem dX0_init_14 : decode cX0_init 14 = .ok (.aload_n 0, 1) := by decide +kernel
theorem dX0_init_15 : decode cX0_init 15 = .ok (.iconst 1, 1) := by decide +kernel
theorem dX0_init_16 : decode cX0_init 16 = .ok (.putfield 18, 3) := by decide +kernel
theorem dX0_init_19 : decode cX0_init 19 = .ok (.aload_n 0, 1) := by decide +kernel
theorem dX0_init_20 : decode cX0_init 20 = .ok (.iconst 0, 1) := by decide +kernel
theorem dX0_init_21 : decode cX0_init 21 = .ok (.putfield 21, 3) := by decide +kernel
theorem dX0_init_24 : decode cX0_init 24 = .ok (.aload_n 0, 1) := by decide +kernel
theorem dX0_init_25 : decode cX0_init 25 = .ok (.iconst 0, 1) := by decide +kernel
theorem dX0_init_26 : decode cX0_init 26 = .ok (.putfield 25, 3) := by decide +kernel
theorem dX0_init_29 : decode cX0_init 29 = .ok (.aload_n 0, 1) := by decide +kernel
theorem dX0_init_30 : decode cX0_init 30 = .ok (.iconst 0, 1) := by decide +kernel
theorem dX0_init_31 : decode cX0_init 31 = .ok (.putfield 28, 3) := by decide +kernel
theorem dX0_init_34 : decode cX0_init 34 = .ok (.return_, 1) := by decide +kernel
theorem dX0_clear_0 : decode cX0_clear 0 = .ok (.aload_n 0, 1) := by decide +kernel
theorem dX0_clear_1 : decode cX0_clear 1 = .ok (.iconst 0, 1) := by decide +kernel
theorem dX0_clear_2 : decode cX0_clear 2 = .ok (.putfield 21, 3) := by decide +kernel
theorem dX0_clear_5 : decode cX0_clear 5 = .ok (.return_, 1) := by decide +kernel
theorem dX0_write_0 : decode cX0_write 0 = .ok (.aload_n 0, 1) := by decide +kernel
theorem dX0_write_1 : decode cX0_write 1 = .ok (.iconst 1, 1) := by decide +kernel
theorem dX0_write_2 : decode cX0_write 2 = .ok (.putfield 21, 3) := by decide +kernel
theorem dX0_write_5 : decode cX0_write 5 = .ok (.aload_n 0, 1) := by decide +kernel
theorem dX0_write_6 : decode cX0_write 6 = .ok (.iload_n 1, 1) := by decide +kernel
theorem dX0_write_7 : decode cX0_write 7 = .ok (.putfield 25, 3) := by decide +kernel
theorem dX0_write_10 : decode cX0_write 10 = .ok (.aload_n 0, 1) := by decide +kernel
theorem dX0_write_11 : decode cX0_write 11 = .ok (.iload_n 2, 1) := by decide +kernel
theorem dX0_write_12 : decode cX0_write 12 = .ok (.putfield 28, 3) := by decide +kernel
theorem dX0_write_15 : decode cX0_write 15 = .ok (.return_, 1) := by decide +kernel
theorem dX0_valueOrZero_0 : decode cX0_valueOrZero 0 = .ok (.aload_n 0, 1) := by decide +kernel
theorem dX0_valueOrZero_1 : decode cX0_valueOrZero 1 = .ok (.getfield 21, 3) := by decide +kernel
theorem dX0_valueOrZero_4 : decode cX0_valueOrZero 4 = .ok (.ifCond .eq 10, 3) := by decide +kernel
theorem dX0_valueOrZero_7 : decode cX0_valueOrZero 7 = .ok (.aload_n 0, 1) := by decide +kernel
theorem dX0_valueOrZero_8 : decode cX0_valueOrZero 8 = .ok (.getfield 25, 3) := by decide +kernel
theorem dX0_valueOrZero_11 : decode cX0_valueOrZero 11 = .ok (.goto 4, 3) := by decide +kernel
theorem dX0_valueOrZero_14 : decode cX0_valueOrZero 14 = .ok (.iconst 0, 1) := by decide +kernel
theorem dX0_valueOrZero_15 : decode cX0_valueOrZero 15 = .ok (.ireturn, 1) := by decide +kernel
theorem dX0_hourOrNone_0 : decode cX0_hourOrNone 0 = .ok (.aload_n 0, 1) := by decide +kernel
theorem dX0_hourOrNone_1 : decode cX0_hourOrNone 1 = .ok (.getfield 21, 3) := by decide +kernel
theorem dX0_hourOrNone_4 : decode cX0_hourOrNone 4 = .ok (.ifCond .eq 10, 3) := by decide +kernel
theorem dX0_hourOrNone_7 : decode cX0_hourOrNone 7 = .ok (.aload_n 0, 1) := by decide +kernel
theorem dX0_hourOrNone_8 : decode cX0_hourOrNone 8 = .ok (.getfield 28, 3) := by decide +kernel
theorem dX0_hourOrNone_11 : decode cX0_hourOrNone 11 = .ok (.goto 4, 3) := by decide +kernel
theorem dX0_hourOrNone_14 : decode cX0_hourOrNone 14 = .ok (.iconst (-1), 1) := by decide +kernel
theorem dX0_hourOrNone_15 : decode cX0_hourOrNone 15 = .ok (.ireturn, 1) := by decide +kernel
theorem dX0_age_0 : decode cX0_age 0 = .ok (.aload_n 0, 1) := by decide +kernel
theorem dX0_age_1 : decode cX0_age 1 = .ok (.getfield 21, 3) := by decide +kernel
theorem dX0_age_4 : decode cX0_age 4 = .ok (.ifCond .eq 25, 3) := by decide +kernel
theorem dX0_age_7 : decode cX0_age 7 = .ok (.iload_n 1, 1) := by decide +kernel
theorem dX0_age_8 : decode cX0_age 8 = .ok (.aload_n 0, 1) := by decide +kernel
theorem dX0_age_9 : decode cX0_age 9 = .ok (.getfield 28, 3) := by decide +kernel
theorem dX0_age_12 : decode cX0_age 12 = .ok (.isub, 1) := by decide +kernel
theorem dX0_age_13 : decode cX0_age 13 = .ok (.aload_n 0, 1) := by decide +kernel
theorem dX0_age_14 : decode cX0_age 14 = .ok (.getfield 18, 3) := by decide +kernel
theorem dX0_age_17 : decode cX0_age 17 = .ok (.if_icmp .gt 12, 3) := by decide +kernel
theorem dX0_age_20 : decode cX0_age 20 = .ok (.iload_n 1, 1) := by decide +kernel
theorem dX0_age_21 : decode cX0_age 21 = .ok (.aload_n 0, 1) := by decide +kernel
theorem dX0_age_22 : decode cX0_age 22 = .ok (.getfield 28, 3) := by decide +kernel
theorem dX0_age_25 : decode cX0_age 25 = .ok (.isub, 1) := by decide +kernel
theorem dX0_age_26 : decode cX0_age 26 = .ok (.goto 4, 3) := by decide +kernel
theorem dX0_age_29 : decode cX0_age 29 = .ok (.iconst (-1), 1) := by decide +kernel
theorem dX0_age_30 : decode cX0_age 30 = .ok (.ireturn, 1) := by decide +kernel
theorem dX1_o_0 : decode cX1_o 0 = .ok (.iload_n 0, 1) := by decide +kernel
theorem dX1_o_1 : decode cX1_o 1 = .ok (.bipush 127, 2) := by decide +kernel
theorem dX1_o_3 : decode cX1_o 3 = .ok (.iand, 1) := by decide +kernel
theorem dX1_o_4 : decode cX1_o 4 = .ok (.ireturn, 1) := by decide +kernel
theorem dX1_f_0 : decode cX1_f 0 = .ok (.iload_n 0, 1) := by decide +kernel
theorem dX1_f_1 : decode cX1_f 1 = .ok (.bipush 12, 2) := by decide +kernel
theorem dX1_f_3 : decode cX1_f 3 = .ok (.iushr, 1) := by decide +kernel
theorem dX1_f_4 : decode cX1_f 4 = .ok (.bipush 7, 2) := by decide +kernel
theorem dX1_f_6 : decode cX1_f 6 = .ok (.iand, 1) := by decide +kernel
theorem dX1_f_7 : decode cX1_f 7 = .ok (.ireturn, 1) := by decide +kernel
theorem dX1_g_0 : decode cX1_g 0 = .ok (.iload_n 0, 1) := by decide +kernel
theorem dX1_g_1 : decode cX1_g 1 = .ok (.bipush 25, 2) := by decide +kernel
theorem dX1_g_3 : decode cX1_g 3 = .ok (.iushr, 1) := by decide +kernel
theorem dX1_g_4 : decode cX1_g 4 = .ok (.ireturn, 1) := by decide +kernel
theorem dX1_rd_0 : decode cX1_rd 0 = .ok (.iload_n 0, 1) := by decide +kernel
theorem dX1_rd_1 : decode cX1_rd 1 = .ok (.bipush 7, 2) := by decide +kernel
theorem dX1_rd_3 : decode cX1_rd 3 = .ok (.iushr, 1) := by decide +kernel
theorem dX1_rd_4 : decode cX1_rd 4 = .ok (.bipush 31, 2) := by decide +kernel
theorem dX1_rd_6 : decode cX1_rd 6 = .ok (.iand, 1) := by decide +kernel
theorem dX1_rd_7 : decode cX1_rd 7 = .ok (.ireturn, 1) := by decide +kernel
theorem dX1_rs1_0 : decode cX1_rs1 0 = .ok (.iload_n 0, 1) := by decide +kernel
theorem dX1_rs1_1 : decode cX1_rs1 1 = .ok (.bipush 15, 2) := by decide +kernel
theorem dX1_rs1_3 : decode cX1_rs1 3 = .ok (.iushr, 1) := by decide +kernel
theorem dX1_rs1_4 : decode cX1_rs1 4 = .ok (.bipush 31, 2) := by decide +kernel
theorem dX1_rs1_6 : decode cX1_rs1 6 = .ok (.iand, 1) := by decide +kernel
theorem dX1_rs1_7 : decode cX1_rs1 7 = .ok (.ireturn, 1) := by decide +kernel
theorem dX1_rs2_0 : decode cX1_rs2 0 = .ok (.iload_n 0, 1) := by decide +kernel
theorem dX1_rs2_1 : decode cX1_rs2 1 = .ok (.bipush 20, 2) := by decide +kernel
theorem dX1_rs2_3 : decode cX1_rs2 3 = .ok (.iushr, 1) := by decide +kernel
theorem dX1_rs2_4 : decode cX1_rs2 4 = .ok (.bipush 31, 2) := by decide +kernel
theorem dX1_rs2_6 : decode cX1_rs2 6 = .ok (.iand, 1) := by decide +kernel
theorem dX1_rs2_7 : decode cX1_rs2 7 = .ok (.ireturn, 1) := by decide +kernel
theorem dX1_immediateI_0 : decode cX1_immediateI 0 = .ok (.iload_n 0, 1) := by decide +kernel
theorem dX1_immediateI_1 : decode cX1_immediateI 1 = .ok (.bipush 20, 2) := by decide +kernel
theorem dX1_immediateI_3 : decode cX1_immediateI 3 = .ok (.ishr, 1) := by decide +kernel
theorem dX1_immediateI_4 : decode cX1_immediateI 4 = .ok (.ireturn, 1) := by decide +kernel
theorem dX1_immediateU_0 : decode cX1_immediateU 0 = .ok (.iload_n 0, 1) := by decide +kernel
theorem dX1_immediateU_1 : decode cX1_immediateU 1 = .ok (.sipush (-4096), 3) := by decide +kernel
theorem dX1_immediateU_4 : decode cX1_immediateU 4 = .ok (.iand, 1) := by decide +kernel
theorem dX1_immediateU_5 : decode cX1_immediateU 5 = .ok (.ireturn, 1) := by decide +kernel
theorem dX1_immediateS_0 : decode cX1_immediateS 0 = .ok (.iload_n 0, 1) := by decide +kernel
theorem dX1_immediateS_1 : decode cX1_immediateS 1 = .ok (.bipush 25, 2) := by decide +kernel
theorem dX1_immediateS_3 : decode cX1_immediateS 3 = .ok (.ishr, 1) := by decide +kernel
theorem dX1_immediateS_4 : decode cX1_immediateS 4 = .ok (.iconst 5, 1) := by decide +kernel
theorem dX1_immediateS_5 : decode cX1_immediateS 5 = .ok (.ishl, 1) := by decide +kernel
theorem dX1_immediateS_6 : decode cX1_immediateS 6 = .ok (.iload_n 0, 1) := by decide +kernel
theorem dX1_immediateS_7 : decode cX1_immediateS 7 = .ok (.bipush 7, 2) := by decide +kernel
theorem dX1_immediateS_9 : decode cX1_immediateS 9 = .ok (.iushr, 1) := by decide +kernel
theorem dX1_immediateS_10 : decode cX1_immediateS 10 = .ok (.bipush 31, 2) := by decide +kernel
theorem dX1_immediateS_12 : decode cX1_immediateS 12 = .ok (.iand, 1) := by decide +kernel
theorem dX1_immediateS_13 : decode cX1_immediateS 13 = .ok (.ior, 1) := by decide +kernel
theorem dX1_immediateS_14 : decode cX1_immediateS 14 = .ok (.ireturn, 1) := by decide +kernel
theorem dX1_immediateB_0 : decode cX1_immediateB 0 = .ok (.iload_n 0, 1) := by decide +kernel
theorem dX1_immediateB_1 : decode cX1_immediateB 1 = .ok (.bipush 31, 2) := by decide +kernel
theorem dX1_immediateB_3 : decode cX1_immediateB 3 = .ok (.ishr, 1) := by decide +kernel
theorem dX1_immediateB_4 : decode cX1_immediateB 4 = .ok (.bipush 12, 2) := by decide +kernel
theorem dX1_immediateB_6 : decode cX1_immediateB 6 = .ok (.ishl, 1) := by decide +kernel
theorem dX1_immediateB_7 : decode cX1_immediateB 7 = .ok (.iload_n 0, 1) := by decide +kernel
theorem dX1_immediateB_8 : decode cX1_immediateB 8 = .ok (.bipush 7, 2) := by decide +kernel
theorem dX1_immediateB_10 : decode cX1_immediateB 10 = .ok (.iushr, 1) := by decide +kernel
theorem dX1_immediateB_11 : decode cX1_immediateB 11 = .ok (.iconst 1, 1) := by decide +kernel
theorem dX1_immediateB_12 : decode cX1_immediateB 12 = .ok (.iand, 1) := by decide +kernel
theorem dX1_immediateB_13 : decode cX1_immediateB 13 = .ok (.bipush 11, 2) := by decide +kernel
theorem dX1_immediateB_15 : decode cX1_immediateB 15 = .ok (.ishl, 1) := by decide +kernel
theorem dX1_immediateB_16 : decode cX1_immediateB 16 = .ok (.ior, 1) := by decide +kernel
theorem dX1_immediateB_17 : decode cX1_immediateB 17 = .ok (.iload_n 0, 1) := by decide +kernel
theorem dX1_immediateB_18 : decode cX1_immediateB 18 = .ok (.bipush 25, 2) := by decide +kernel
theorem dX1_immediateB_20 : decode cX1_immediateB 20 = .ok (.iushr, 1) := by decide +kernel
theorem dX1_immediateB_21 : decode cX1_immediateB 21 = .ok (.bipush 63, 2) := by decide +kernel
theorem dX1_immediateB_23 : decode cX1_immediateB 23 = .ok (.iand, 1) := by decide +kernel
theorem dX1_immediateB_24 : decode cX1_immediateB 24 = .ok (.iconst 5, 1) := by decide +kernel
theorem dX1_immediateB_25 : decode cX1_immediateB 25 = .ok (.ishl, 1) := by decide +kernel
theorem dX1_immediateB_26 : decode cX1_immediateB 26 = .ok (.ior, 1) := by decide +kernel
theorem dX1_immediateB_27 : decode cX1_immediateB 27 = .ok (.iload_n 0, 1) := by decide +kernel
theorem dX1_immediateB_28 : decode cX1_immediateB 28 = .ok (.bipush 8, 2) := by decide +kernel
theorem dX1_immediateB_30 : decode cX1_immediateB 30 = .ok (.iushr, 1) := by decide +kernel
theorem dX1_immediateB_31 : decode cX1_immediateB 31 = .ok (.bipush 15, 2) := by decide +kernel
theorem dX1_immediateB_33 : decode cX1_immediateB 33 = .ok (.iand, 1) := by decide +kernel
theorem dX1_immediateB_34 : decode cX1_immediateB 34 = .ok (.iconst 1, 1) := by decide +kernel
theorem dX1_immediateB_35 : decode cX1_immediateB 35 = .ok (.ishl, 1) := by decide +kernel
theorem dX1_immediateB_36 : decode cX1_immediateB 36 = .ok (.ior, 1) := by decide +kernel
theorem dX1_immediateB_37 : decode cX1_immediateB 37 = .ok (.ireturn, 1) := by decide +kernel
theorem dX1_immediateJ_0 : decode cX1_immediateJ 0 = .ok (.iload_n 0, 1) := by decide +kernel
theorem dX1_immediateJ_1 : decode cX1_immediateJ 1 = .ok (.bipush 31, 2) := by decide +kernel
theorem dX1_immediateJ_3 : decode cX1_immediateJ 3 = .ok (.ishr, 1) := by decide +kernel
theorem dX1_immediateJ_4 : decode cX1_immediateJ 4 = .ok (.bipush 20, 2) := by decide +kernel
theorem dX1_immediateJ_6 : decode cX1_immediateJ 6 = .ok (.ishl, 1) := by decide +kernel
theorem dX1_immediateJ_7 : decode cX1_immediateJ 7 = .ok (.iload_n 0, 1) := by decide +kernel
theorem dX1_immediateJ_8 : decode cX1_immediateJ 8 = .ok (.bipush 12, 2) := by decide +kernel
theorem dX1_immediateJ_10 : decode cX1_immediateJ 10 = .ok (.iushr, 1) := by decide +kernel
theorem dX1_immediateJ_11 : decode cX1_immediateJ 11 = .ok (.sipush 255, 3) := by decide +kernel
theorem dX1_immediateJ_14 : decode cX1_immediateJ 14 = .ok (.iand, 1) := by decide +kernel
theorem dX1_immediateJ_15 : decode cX1_immediateJ 15 = .ok (.bipush 12, 2) := by decide +kernel
theorem dX1_immediateJ_17 : decode cX1_immediateJ 17 = .ok (.ishl, 1) := by decide +kernel
theorem dX1_immediateJ_18 : decode cX1_immediateJ 18 = .ok (.ior, 1) := by decide +kernel
theorem dX1_immediateJ_19 : decode cX1_immediateJ 19 = .ok (.iload_n 0, 1) := by decide +kernel
theorem dX1_immediateJ_20 : decode cX1_immediateJ 20 = .ok (.bipush 20, 2) := by decide +kernel
theorem dX1_immediateJ_22 : decode cX1_immediateJ 22 = .ok (.iushr, 1) := by decide +kernel
theorem dX1_immediateJ_23 : decode cX1_immediateJ 23 = .ok (.iconst 1, 1) := by decide +kernel
theorem dX1_immediateJ_24 : decode cX1_immediateJ 24 = .ok (.iand, 1) := by decide +kernel
theorem dX1_immediateJ_25 : decode cX1_immediateJ 25 = .ok (.bipush 11, 2) := by decide +kernel
theorem dX1_immediateJ_27 : decode cX1_immediateJ 27 = .ok (.ishl, 1) := by decide +kernel
theorem dX1_immediateJ_28 : decode cX1_immediateJ 28 = .ok (.ior, 1) := by decide +kernel
theorem dX1_immediateJ_29 : decode cX1_immediateJ 29 = .ok (.iload_n 0, 1) := by decide +kernel
theorem dX1_immediateJ_30 : decode cX1_immediateJ 30 = .ok (.bipush 21, 2) := by decide +kernel
theorem dX1_immediateJ_32 : decode cX1_immediateJ 32 = .ok (.iushr, 1) := by decide +kernel
theorem dX1_immediateJ_33 : decode cX1_immediateJ 33 = .ok (.sipush 1023, 3) := by decide +kernel
theorem dX1_immediateJ_36 : decode cX1_immediateJ 36 = .ok (.iand, 1) := by decide +kernel
theorem dX1_immediateJ_37 : decode cX1_immediateJ 37 = .ok (.iconst 1, 1) := by decide +kernel
theorem dX1_immediateJ_38 : decode cX1_immediateJ 38 = .ok (.ishl, 1) := by decide +kernel
theorem dX1_immediateJ_39 : decode cX1_immediateJ 39 = .ok (.ior, 1) := by decide +kernel
theorem dX1_immediateJ_40 : decode cX1_immediateJ 40 = .ok (.ireturn, 1) := by decide +kernel
theorem dX1_isKnown_0 : decode cX1_isKnown 0 = .ok (.iload_n 0, 1) := by decide +kernel
theorem dX1_isKnown_1 : decode cX1_isKnown 1 = .ok (.invokestatic 9, 3) := by decide +kernel
theorem dX1_isKnown_4 : decode cX1_isKnown 4 = .ok (.bipush 16, 2) := by decide +kernel
theorem dX1_isKnown_6 : decode cX1_isKnown 6 = .ok (.if_icmp .ge 7, 3) := by decide +kernel
theorem dX1_isKnown_9 : decode cX1_isKnown 9 = .ok (.iconst 1, 1) := by decide +kernel
theorem dX1_isKnown_10 : decode cX1_isKnown 10 = .ok (.goto 4, 3) := by decide +kernel
theorem dX1_isKnown_13 : decode cX1_isKnown 13 = .ok (.iconst 0, 1) := by decide +kernel
theorem dX1_isKnown_14 : decode cX1_isKnown 14 = .ok (.istore_n 1, 1) := by decide +kernel
theorem dX1_isKnown_15 : decode cX1_isKnown 15 = .ok (.iload_n 0, 1) := by decide +kernel
theorem dX1_isKnown_16 : decode cX1_isKnown 16 = .ok (.invokestatic 15, 3) := by decide +kernel
theorem dX1_isKnown_19 : decode cX1_isKnown 19 = .ok (.bipush 16, 2) := by decide +kernel
theorem dX1_isKnown_21 : decode cX1_isKnown 21 = .ok (.if_icmp .ge 7, 3) := by decide +kernel
theorem dX1_isKnown_24 : decode cX1_isKnown 24 = .ok (.iconst 1, 1) := by decide +kernel
theorem dX1_isKnown_25 : decode cX1_isKnown 25 = .ok (.goto 4, 3) := by decide +kernel
theorem dX1_isKnown_28 : decode cX1_isKnown 28 = .ok (.iconst 0, 1) := by decide +kernel
theorem dX1_isKnown_29 : decode cX1_isKnown 29 = .ok (.istore_n 2, 1) := by decide +kernel
theorem dX1_isKnown_30 : decode cX1_isKnown 30 = .ok (.iload_n 0, 1) := by decide +kernel
theorem dX1_isKnown_31 : decode cX1_isKnown 31 = .ok (.invokestatic 18, 3) := by decide +kernel
theorem dX1_isKnown_34 : decode cX1_isKnown 34 = .ok (.bipush 16, 2) := by decide +kernel
theorem dX1_isKnown_36 : decode cX1_isKnown 36 = .ok (.if_icmp .ge 7, 3) := by decide +kernel
theorem dX1_isKnown_39 : decode cX1_isKnown 39 = .ok (.iconst 1, 1) := by decide +kernel
theorem dX1_isKnown_40 : decode cX1_isKnown 40 = .ok (.goto 4, 3) := by decide +kernel
theorem dX1_isKnown_43 : decode cX1_isKnown 43 = .ok (.iconst 0, 1) := by decide +kernel
theorem dX1_isKnown_44 : decode cX1_isKnown 44 = .ok (.istore_n 3, 1) := by decide +kernel
theorem dX1_isKnown_45 : decode cX1_isKnown 45 = .ok (.iload_n 0, 1) := by decide +kernel
theorem dX1_isKnown_46 : decode cX1_isKnown 46 = .ok (.invokestatic 21, 3) := by decide +kernel
theorem dX1_isKnown_49 : decode cX1_isKnown 49 = .ok (.lookupswitch 266 #[(3, 144), (19, 188), (23, 91), (35, 166), (51, 216), (55, 91), (99, 114), (103, 93), (111, 91), (115, 248)], 91) := by decide +kernel
theorem dX1_isKnown_140 : decode cX1_isKnown 140 = .ok (.iload_n 1, 1) := by decide +kernel
theorem dX1_isKnown_141 : decode cX1_isKnown 141 = .ok (.ireturn, 1) := by decide +kernel
theorem dX1_isKnown_142 : decode cX1_isKnown 142 = .ok (.iload_n 0, 1) := by decide +kernel
theorem dX1_isKnown_143 : decode cX1_isKnown 143 = .ok (.invokestatic 24, 3) := by decide +kernel
theorem dX1_isKnown_146 : decode cX1_isKnown 146 = .ok (.ifCond .ne 15, 3) := by decide +kernel
theorem dX1_isKnown_149 : decode cX1_isKnown 149 = .ok (.iload_n 1, 1) := by decide +kernel
theorem dX1_isKnown_150 : decode cX1_isKnown 150 = .ok (.ifCond .eq 11, 3) := by decide +kernel
theorem dX1_isKnown_153 : decode cX1_isKnown 153 = .ok (.iload_n 2, 1) := by decide +kernel
theorem dX1_isKnown_154 : decode cX1_isKnown 154 = .ok (.ifCond .eq 7, 3) := by decide +kernel
theorem dX1_isKnown_157 : decode cX1_isKnown 157 = .ok (.iconst 1, 1) := by decide +kernel
theorem dX1_isKnown_158 : decode cX1_isKnown 158 = .ok (.goto 4, 3) := by decide +kernel
theorem dX1_isKnown_161 : decode cX1_isKnown 161 = .ok (.iconst 0, 1) := by decide +kernel
theorem dX1_isKnown_162 : decode cX1_isKnown 162 = .ok (.ireturn, 1) := by decide +kernel
theorem dX1_isKnown_163 : decode cX1_isKnown 163 = .ok (.iload_n 0, 1) := by decide +kernel
theorem dX1_isKnown_164 : decode cX1_isKnown 164 = .ok (.invokestatic 24, 3) := by decide +kernel
theorem dX1_isKnown_167 : decode cX1_isKnown 167 = .ok (.iconst 2, 1) := by decide +kernel
theorem dX1_isKnown_168 : decode cX1_isKnown 168 = .ok (.if_icmp .eq 23, 3) := by decide +kernel
theorem dX1_isKnown_171 : decode cX1_isKnown 171 = .ok (.iload_n 0, 1) := by decide +kernel
theorem dX1_isKnown_172 : decode cX1_isKnown 172 = .ok (.invokestatic 24, 3) := by decide +kernel
theorem dX1_isKnown_175 : decode cX1_isKnown 175 = .ok (.iconst 3, 1) := by decide +kernel
theorem dX1_isKnown_176 : decode cX1_isKnown 176 = .ok (.if_icmp .eq 15, 3) := by decide +kernel
theorem dX1_isKnown_179 : decode cX1_isKnown 179 = .ok (.iload_n 2, 1) := by decide +kernel
theorem dX1_isKnown_180 : decode cX1_isKnown 180 = .ok (.ifCond .eq 11, 3) := by decide +kernel
theorem dX1_isKnown_183 : decode cX1_isKnown 183 = .ok (.iload_n 3, 1) := by decide +kernel
theorem dX1_isKnown_184 : decode cX1_isKnown 184 = .ok (.ifCond .eq 7, 3) := by decide +kernel
theorem dX1_isKnown_187 : decode cX1_isKnown 187 = .ok (.iconst 1, 1) := by decide +kernel
theorem dX1_isKnown_188 : decode cX1_isKnown 188 = .ok (.goto 4, 3) := by decide +kernel
theorem dX1_isKnown_191 : decode cX1_isKnown 191 = .ok (.iconst 0, 1) := by decide +kernel
theorem dX1_isKnown_192 : decode cX1_isKnown 192 = .ok (.ireturn, 1) := by decide +kernel
theorem dX1_isKnown_193 : decode cX1_isKnown 193 = .ok (.iload_n 0, 1) := by decide +kernel
theorem dX1_isKnown_194 : decode cX1_isKnown 194 = .ok (.invokestatic 24, 3) := by decide +kernel
theorem dX1_isKnown_197 : decode cX1_isKnown 197 = .ok (.iconst 2, 1) := by decide +kernel
theorem dX1_isKnown_198 : decode cX1_isKnown 198 = .ok (.if_icmp .ne 15, 3) := by decide +kernel
theorem dX1_isKnown_201 : decode cX1_isKnown 201 = .ok (.iload_n 1, 1) := by decide +kernel
theorem dX1_isKnown_202 : decode cX1_isKnown 202 = .ok (.ifCond .eq 11, 3) := by decide +kernel
theorem dX1_isKnown_205 : decode cX1_isKnown 205 = .ok (.iload_n 2, 1) := by decide +kernel
theorem dX1_isKnown_206 : decode cX1_isKnown 206 = .ok (.ifCond .eq 7, 3) := by decide +kernel
theorem dX1_isKnown_209 : decode cX1_isKnown 209 = .ok (.iconst 1, 1) := by decide +kernel
theorem dX1_isKnown_210 : decode cX1_isKnown 210 = .ok (.goto 4, 3) := by decide +kernel
theorem dX1_isKnown_213 : decode cX1_isKnown 213 = .ok (.iconst 0, 1) := by decide +kernel
theorem dX1_isKnown_214 : decode cX1_isKnown 214 = .ok (.ireturn, 1) := by decide +kernel
theorem dX1_isKnown_215 : decode cX1_isKnown 215 = .ok (.iload_n 0, 1) := by decide +kernel
theorem dX1_isKnown_216 : decode cX1_isKnown 216 = .ok (.invokestatic 24, 3) := by decide +kernel
theorem dX1_isKnown_219 : decode cX1_isKnown 219 = .ok (.iconst 2, 1) := by decide +kernel
theorem dX1_isKnown_220 : decode cX1_isKnown 220 = .ok (.if_icmp .ne 15, 3) := by decide +kernel
theorem dX1_isKnown_223 : decode cX1_isKnown 223 = .ok (.iload_n 2, 1) := by decide +kernel
theorem dX1_isKnown_224 : decode cX1_isKnown 224 = .ok (.ifCond .eq 11, 3) := by decide +kernel
theorem dX1_isKnown_227 : decode cX1_isKnown 227 = .ok (.iload_n 3, 1) := by decide +kernel
theorem dX1_isKnown_228 : decode cX1_isKnown 228 = .ok (.ifCond .eq 7, 3) := by decide +kernel
theorem dX1_isKnown_231 : decode cX1_isKnown 231 = .ok (.iconst 1, 1) := by decide +kernel
theorem dX1_isKnown_232 : decode cX1_isKnown 232 = .ok (.goto 4, 3) := by decide +kernel
theorem dX1_isKnown_235 : decode cX1_isKnown 235 = .ok (.iconst 0, 1) := by decide +kernel
theorem dX1_isKnown_236 : decode cX1_isKnown 236 = .ok (.ireturn, 1) := by decide +kernel
theorem dX1_isKnown_237 : decode cX1_isKnown 237 = .ok (.iload_n 1, 1) := by decide +kernel
theorem dX1_isKnown_238 : decode cX1_isKnown 238 = .ok (.ifCond .eq 25, 3) := by decide +kernel
theorem dX1_isKnown_241 : decode cX1_isKnown 241 = .ok (.iload_n 2, 1) := by decide +kernel
theorem dX1_isKnown_242 : decode cX1_isKnown 242 = .ok (.ifCond .eq 21, 3) := by decide +kernel
theorem dX1_isKnown_245 : decode cX1_isKnown 245 = .ok (.iload_n 0, 1) := by decide +kernel
theorem dX1_isKnown_246 : decode cX1_isKnown 246 = .ok (.invokestatic 24, 3) := by decide +kernel
theorem dX1_isKnown_249 : decode cX1_isKnown 249 = .ok (.iload_n 0, 1) := by decide +kernel
theorem dX1_isKnown_250 : decode cX1_isKnown 250 = .ok (.invokestatic 27, 3) := by decide +kernel
theorem dX1_isKnown_253 : decode cX1_isKnown 253 = .ok (.invokestatic 30, 3) := by decide +kernel
theorem dX1_isKnown_256 : decode cX1_isKnown 256 = .ok (.ifCond .eq 7, 3) := by decide +kernel
theorem dX1_isKnown_259 : decode cX1_isKnown 259 = .ok (.iconst 1, 1) := by decide +kernel
theorem dX1_isKnown_260 : decode cX1_isKnown 260 = .ok (.goto 4, 3) := by decide +kernel
theorem dX1_isKnown_263 : decode cX1_isKnown 263 = .ok (.iconst 0, 1) := by decide +kernel
theorem dX1_isKnown_264 : decode cX1_isKnown 264 = .ok (.ireturn, 1) := by decide +kernel
theorem dX1_isKnown_265 : decode cX1_isKnown 265 = .ok (.iload_n 1, 1) := by decide +kernel
theorem dX1_isKnown_266 : decode cX1_isKnown 266 = .ok (.ifCond .eq 29, 3) := by decide +kernel
theorem dX1_isKnown_269 : decode cX1_isKnown 269 = .ok (.iload_n 2, 1) := by decide +kernel
theorem dX1_isKnown_270 : decode cX1_isKnown 270 = .ok (.ifCond .eq 25, 3) := by decide +kernel
theorem dX1_isKnown_273 : decode cX1_isKnown 273 = .ok (.iload_n 3, 1) := by decide +kernel
theorem dX1_isKnown_274 : decode cX1_isKnown 274 = .ok (.ifCond .eq 21, 3) := by decide +kernel
theorem dX1_isKnown_277 : decode cX1_isKnown 277 = .ok (.iload_n 0, 1) := by decide +kernel
theorem dX1_isKnown_278 : decode cX1_isKnown 278 = .ok (.invokestatic 24, 3) := by decide +kernel
theorem dX1_isKnown_281 : decode cX1_isKnown 281 = .ok (.iload_n 0, 1) := by decide +kernel
theorem dX1_isKnown_282 : decode cX1_isKnown 282 = .ok (.invokestatic 27, 3) := by decide +kernel
theorem dX1_isKnown_285 : decode cX1_isKnown 285 = .ok (.invokestatic 34, 3) := by decide +kernel
theorem dX1_isKnown_288 : decode cX1_isKnown 288 = .ok (.ifCond .eq 7, 3) := by decide +kernel
theorem dX1_isKnown_291 : decode cX1_isKnown 291 = .ok (.iconst 1, 1) := by decide +kernel
theorem dX1_isKnown_292 : decode cX1_isKnown 292 = .ok (.goto 4, 3) := by decide +kernel
theorem dX1_isKnown_295 : decode cX1_isKnown 295 = .ok (.iconst 0, 1) := by decide +kernel
theorem dX1_isKnown_296 : decode cX1_isKnown 296 = .ok (.ireturn, 1) := by decide +kernel
theorem dX1_isKnown_297 : decode cX1_isKnown 297 = .ok (.iload_n 0, 1) := by decide +kernel
theorem dX1_isKnown_298 : decode cX1_isKnown 298 = .ok (.bipush 115, 2) := by decide +kernel
theorem dX1_isKnown_300 : decode cX1_isKnown 300 = .ok (.if_icmp .eq 9, 3) := by decide +kernel
theorem dX1_isKnown_303 : decode cX1_isKnown 303 = .ok (.iload_n 0, 1) := by decide +kernel
theorem dX1_isKnown_304 : decode cX1_isKnown 304 = .ok (.ldc 37, 2) := by decide +kernel
theorem dX1_isKnown_306 : decode cX1_isKnown 306 = .ok (.if_icmp .ne 7, 3) := by decide +kernel
theorem dX1_isKnown_309 : decode cX1_isKnown 309 = .ok (.iconst 1, 1) := by decide +kernel
theorem dX1_isKnown_310 : decode cX1_isKnown 310 = .ok (.goto 4, 3) := by decide +kernel
theorem dX1_isKnown_313 : decode cX1_isKnown 313 = .ok (.iconst 0, 1) := by decide +kernel
theorem dX1_isKnown_314 : decode cX1_isKnown 314 = .ok (.ireturn, 1) := by decide +kernel
theorem dX1_isKnown_315 : decode cX1_isKnown 315 = .ok (.iconst 0, 1) := by decide +kernel
theorem dX1_isKnown_316 : decode cX1_isKnown 316 = .ok (.ireturn, 1) := by decide +kernel
theorem dX1_isKnownWithImmediate_0 : decode cX1_isKnownWithImmediate 0 = .ok (.iload_n 0, 1) := by decide +kernel
theorem dX1_isKnownWithImmediate_1 : decode cX1_isKnownWithImmediate 1 = .ok (.iconst 1, 1) := by decide +kernel
theorem dX1_isKnownWithImmediate_2 : decode cX1_isKnownWithImmediate 2 = .ok (.if_icmp .ne 13, 3) := by decide +kernel
theorem dX1_isKnownWithImmediate_5 : decode cX1_isKnownWithImmediate 5 = .ok (.iload_n 1, 1) := by decide +kernel
theorem dX1_isKnownWithImmediate_6 : decode cX1_isKnownWithImmediate 6 = .ok (.ifCond .ne 7, 3) := by decide +kernel
theorem dX1_isKnownWithImmediate_9 : decode cX1_isKnownWithImmediate 9 = .ok (.iconst 1, 1) := by decide +kernel
theorem dX1_isKnownWithImmediate_10 : decode cX1_isKnownWithImmediate 10 = .ok (.goto 4, 3) := by decide +kernel
theorem dX1_isKnownWithImmediate_13 : decode cX1_isKnownWithImmediate 13 = .ok (.iconst 0, 1) := by decide +kernel
theorem dX1_isKnownWithImmediate_14 : decode cX1_isKnownWithImmediate 14 = .ok (.ireturn, 1) := by decide +kernel
theorem dX1_isKnownWithImmediate_15 : decode cX1_isKnownWithImmediate 15 = .ok (.iload_n 0, 1) := by decide +kernel
theorem dX1_isKnownWithImmediate_16 : decode cX1_isKnownWithImmediate 16 = .ok (.iconst 5, 1) := by decide +kernel
theorem dX1_isKnownWithImmediate_17 : decode cX1_isKnownWithImmediate 17 = .ok (.if_icmp .ne 13, 3) := by decide +kernel
theorem dX1_isKnownWithImmediate_20 : decode cX1_isKnownWithImmediate 20 = .ok (.iload_n 1, 1) := by decide +kernel
theorem dX1_isKnownWithImmediate_21 : decode cX1_isKnownWithImmediate 21 = .ok (.ifCond .eq 9, 3) := by decide +kernel
theorem dX1_isKnownWithImmediate_24 : decode cX1_isKnownWithImmediate 24 = .ok (.iload_n 1, 1) := by decide +kernel
theorem dX1_isKnownWithImmediate_25 : decode cX1_isKnownWithImmediate 25 = .ok (.bipush 32, 2) := by decide +kernel
theorem dX1_isKnownWithImmediate_27 : decode cX1_isKnownWithImmediate 27 = .ok (.if_icmp .ne 7, 3) := by decide +kernel
theorem dX1_isKnownWithImmediate_30 : decode cX1_isKnownWithImmediate 30 = .ok (.iconst 1, 1) := by decide +kernel
theorem dX1_isKnownWithImmediate_31 : decode cX1_isKnownWithImmediate 31 = .ok (.goto 4, 3) := by decide +kernel
theorem dX1_isKnownWithImmediate_34 : decode cX1_isKnownWithImmediate 34 = .ok (.iconst 0, 1) := by decide +kernel
theorem dX1_isKnownWithImmediate_35 : decode cX1_isKnownWithImmediate 35 = .ok (.ireturn, 1) := by decide +kernel
theorem dX1_isKnownWithRegister_0 : decode cX1_isKnownWithRegister 0 = .ok (.iload_n 1, 1) := by decide +kernel
theorem dX1_isKnownWithRegister_1 : decode cX1_isKnownWithRegister 1 = .ok (.ifCond .eq 18, 3) := by decide +kernel
theorem dX1_isKnownWithRegister_4 : decode cX1_isKnownWithRegister 4 = .ok (.iload_n 1, 1) := by decide +kernel
theorem dX1_isKnownWithRegister_5 : decode cX1_isKnownWithRegister 5 = .ok (.bipush 32, 2) := by decide +kernel
theorem dX1_isKnownWithRegister_7 : decode cX1_isKnownWithRegister 7 = .ok (.if_icmp .ne 16, 3) := by decide +kernel
theorem dX1_isKnownWithRegister_10 : decode cX1_isKnownWithRegister 10 = .ok (.iload_n 0, 1) := by decide +kernel
theorem dX1_isKnownWithRegister_11 : decode cX1_isKnownWithRegister 11 = .ok (.ifCond .eq 8, 3) := by decide +kernel
theorem dX1_isKnownWithRegister_14 : decode cX1_isKnownWithRegister 14 = .ok (.iload_n 0, 1) := by decide +kernel
theorem dX1_isKnownWithRegister_15 : decode cX1_isKnownWithRegister 15 = .ok (.iconst 5, 1) := by decide +kernel
theorem dX1_isKnownWithRegister_16 : decode cX1_isKnownWithRegister 16 = .ok (.if_icmp .ne 7, 3) := by decide +kernel
theorem dX1_isKnownWithRegister_19 : decode cX1_isKnownWithRegister 19 = .ok (.iconst 1, 1) := by decide +kernel
theorem dX1_isKnownWithRegister_20 : decode cX1_isKnownWithRegister 20 = .ok (.goto 4, 3) := by decide +kernel
theorem dX1_isKnownWithRegister_23 : decode cX1_isKnownWithRegister 23 = .ok (.iconst 0, 1) := by decide +kernel
theorem dX1_isKnownWithRegister_24 : decode cX1_isKnownWithRegister 24 = .ok (.ireturn, 1) := by decide +kernel
theorem dX4_combined_0 : decode cX4_combined 0 = .ok (.iload_n 0, 1) := by decide +kernel
theorem dX4_combined_1 : decode cX4_combined 1 = .ok (.tableswitch 117 0 6 #[43, 57, 64, 75, 89, 93, 113], 43) := by decide +kernel
theorem dX4_combined_44 : decode cX4_combined 44 = .ok (.iload_n 1, 1) := by decide +kernel
theorem dX4_combined_45 : decode cX4_combined 45 = .ok (.ifCond .eq 9, 3) := by decide +kernel
theorem dX4_combined_48 : decode cX4_combined 48 = .ok (.iload_n 2, 1) := by decide +kernel
theorem dX4_combined_49 : decode cX4_combined 49 = .ok (.iload_n 3, 1) := by decide +kernel
theorem dX4_combined_50 : decode cX4_combined 50 = .ok (.isub, 1) := by decide +kernel
theorem dX4_combined_51 : decode cX4_combined 51 = .ok (.goto 6, 3) := by decide +kernel
theorem dX4_combined_54 : decode cX4_combined 54 = .ok (.iload_n 2, 1) := by decide +kernel
theorem dX4_combined_55 : decode cX4_combined 55 = .ok (.iload_n 3, 1) := by decide +kernel
theorem dX4_combined_56 : decode cX4_combined 56 = .ok (.iadd, 1) := by decide +kernel
theorem dX4_combined_57 : decode cX4_combined 57 = .ok (.ireturn, 1) := by decide +kernel
theorem dX4_combined_58 : decode cX4_combined 58 = .ok (.iload_n 2, 1) := by decide +kernel
theorem dX4_combined_59 : decode cX4_combined 59 = .ok (.iload_n 3, 1) := by decide +kernel
theorem dX4_combined_60 : decode cX4_combined 60 = .ok (.bipush 31, 2) := by decide +kernel
theorem dX4_combined_62 : decode cX4_combined 62 = .ok (.iand, 1) := by decide +kernel
theorem dX4_combined_63 : decode cX4_combined 63 = .ok (.ishl, 1) := by decide +kernel
theorem dX4_combined_64 : decode cX4_combined 64 = .ok (.ireturn, 1) := by decide +kernel
theorem dX4_combined_65 : decode cX4_combined 65 = .ok (.iload_n 2, 1) := by decide +kernel
theorem dX4_combined_66 : decode cX4_combined 66 = .ok (.iload_n 3, 1) := by decide +kernel
theorem dX4_combined_67 : decode cX4_combined 67 = .ok (.if_icmp .ge 7, 3) := by decide +kernel
theorem dX4_combined_70 : decode cX4_combined 70 = .ok (.iconst 1, 1) := by decide +kernel
theorem dX4_combined_71 : decode cX4_combined 71 = .ok (.goto 4, 3) := by decide +kernel
theorem dX4_combined_74 : decode cX4_combined 74 = .ok (.iconst 0, 1) := by decide +kernel
theorem dX4_combined_75 : decode cX4_combined 75 = .ok (.ireturn, 1) := by decide +kernel
theorem dX4_combined_76 : decode cX4_combined 76 = .ok (.iload_n 2, 1) := by decide +kernel
theorem dX4_combined_77 : decode cX4_combined 77 = .ok (.iload_n 3, 1) := by decide +kernel
theorem dX4_combined_78 : decode cX4_combined 78 = .ok (.invokestatic 7, 3) := by decide +kernel
theorem dX4_combined_81 : decode cX4_combined 81 = .ok (.ifCond .eq 7, 3) := by decide +kernel
theorem dX4_combined_84 : decode cX4_combined 84 = .ok (.iconst 1, 1) := by decide +kernel
theorem dX4_combined_85 : decode cX4_combined 85 = .ok (.goto 4, 3) := by decide +kernel
theorem dX4_combined_88 : decode cX4_combined 88 = .ok (.iconst 0, 1) := by decide +kernel
theorem dX4_combined_89 : decode cX4_combined 89 = .ok (.ireturn, 1) := by decide +kernel
theorem dX4_combined_90 : decode cX4_combined 90 = .ok (.iload_n 2, 1) := by decide +kernel
theorem dX4_combined_91 : decode cX4_combined 91 = .ok (.iload_n 3, 1) := by decide +kernel
theorem dX4_combined_92 : decode cX4_combined 92 = .ok (.ixor, 1) := by decide +kernel
theorem dX4_combined_93 : decode cX4_combined 93 = .ok (.ireturn, 1) := by decide +kernel
theorem dX4_combined_94 : decode cX4_combined 94 = .ok (.iload_n 1, 1) := by decide +kernel
theorem dX4_combined_95 : decode cX4_combined 95 = .ok (.ifCond .eq 12, 3) := by decide +kernel
theorem dX4_combined_98 : decode cX4_combined 98 = .ok (.iload_n 2, 1) := by decide +kernel
theorem dX4_combined_99 : decode cX4_combined 99 = .ok (.iload_n 3, 1) := by decide +kernel
theorem dX4_combined_100 : decode cX4_combined 100 = .ok (.bipush 31, 2) := by decide +kernel
theorem dX4_combined_102 : decode cX4_combined 102 = .ok (.iand, 1) := by decide +kernel
theorem dX4_combined_103 : decode cX4_combined 103 = .ok (.ishr, 1) := by decide +kernel
theorem dX4_combined_104 : decode cX4_combined 104 = .ok (.goto 9, 3) := by decide +kernel
theorem dX4_combined_107 : decode cX4_combined 107 = .ok (.iload_n 2, 1) := by decide +kernel
theorem dX4_combined_108 : decode cX4_combined 108 = .ok (.iload_n 3, 1) := by decide +kernel
theorem dX4_combined_109 : decode cX4_combined 109 = .ok (.bipush 31, 2) := by decide +kernel
theorem dX4_combined_111 : decode cX4_combined 111 = .ok (.iand, 1) := by decide +kernel
theorem dX4_combined_112 : decode cX4_combined 112 = .ok (.iushr, 1) := by decide +kernel
theorem dX4_combined_113 : decode cX4_combined 113 = .ok (.ireturn, 1) := by decide +kernel
theorem dX4_combined_114 : decode cX4_combined 114 = .ok (.iload_n 2, 1) := by decide +kernel
theorem dX4_combined_115 : decode cX4_combined 115 = .ok (.iload_n 3, 1) := by decide +kernel
theorem dX4_combined_116 : decode cX4_combined 116 = .ok (.ior, 1) := by decide +kernel
theorem dX4_combined_117 : decode cX4_combined 117 = .ok (.ireturn, 1) := by decide +kernel
theorem dX4_combined_118 : decode cX4_combined 118 = .ok (.iload_n 2, 1) := by decide +kernel
theorem dX4_combined_119 : decode cX4_combined 119 = .ok (.iload_n 3, 1) := by decide +kernel
theorem dX4_combined_120 : decode cX4_combined 120 = .ok (.iand, 1) := by decide +kernel
theorem dX4_combined_121 : decode cX4_combined 121 = .ok (.ireturn, 1) := by decide +kernel
theorem dX4_branches_0 : decode cX4_branches 0 = .ok (.iload_n 0, 1) := by decide +kernel
theorem dX4_branches_1 : decode cX4_branches 1 = .ok (.tableswitch 93 0 6 #[43, 54, 93, 93, 65, 76, 87], 43) := by decide +kernel
theorem dX4_branches_44 : decode cX4_branches 44 = .ok (.iload_n 1, 1) := by decide +kernel
theorem dX4_branches_45 : decode cX4_branches 45 = .ok (.iload_n 2, 1) := by decide +kernel
theorem dX4_branches_46 : decode cX4_branches 46 = .ok (.if_icmp .ne 7, 3) := by decide +kernel
theorem dX4_branches_49 : decode cX4_branches 49 = .ok (.iconst 1, 1) := by decide +kernel
theorem dX4_branches_50 : decode cX4_branches 50 = .ok (.goto 4, 3) := by decide +kernel
theorem dX4_branches_53 : decode cX4_branches 53 = .ok (.iconst 0, 1) := by decide +kernel
theorem dX4_branches_54 : decode cX4_branches 54 = .ok (.ireturn, 1) := by decide +kernel
theorem dX4_branches_55 : decode cX4_branches 55 = .ok (.iload_n 1, 1) := by decide +kernel
theorem dX4_branches_56 : decode cX4_branches 56 = .ok (.iload_n 2, 1) := by decide +kernel
theorem dX4_branches_57 : decode cX4_branches 57 = .ok (.if_icmp .eq 7, 3) := by decide +kernel
theorem dX4_branches_60 : decode cX4_branches 60 = .ok (.iconst 1, 1) := by decide +kernel
theorem dX4_branches_61 : decode cX4_branches 61 = .ok (.goto 4, 3) := by decide +kernel
theorem dX4_branches_64 : decode cX4_branches 64 = .ok (.iconst 0, 1) := by decide +kernel
theorem dX4_branches_65 : decode cX4_branches 65 = .ok (.ireturn, 1) := by decide +kernel
theorem dX4_branches_66 : decode cX4_branches 66 = .ok (.iload_n 1, 1) := by decide +kernel
theorem dX4_branches_67 : decode cX4_branches 67 = .ok (.iload_n 2, 1) := by decide +kernel
theorem dX4_branches_68 : decode cX4_branches 68 = .ok (.if_icmp .ge 7, 3) := by decide +kernel
theorem dX4_branches_71 : decode cX4_branches 71 = .ok (.iconst 1, 1) := by decide +kernel
theorem dX4_branches_72 : decode cX4_branches 72 = .ok (.goto 4, 3) := by decide +kernel
theorem dX4_branches_75 : decode cX4_branches 75 = .ok (.iconst 0, 1) := by decide +kernel
theorem dX4_branches_76 : decode cX4_branches 76 = .ok (.ireturn, 1) := by decide +kernel
theorem dX4_branches_77 : decode cX4_branches 77 = .ok (.iload_n 1, 1) := by decide +kernel
theorem dX4_branches_78 : decode cX4_branches 78 = .ok (.iload_n 2, 1) := by decide +kernel
theorem dX4_branches_79 : decode cX4_branches 79 = .ok (.if_icmp .lt 7, 3) := by decide +kernel
theorem dX4_branches_82 : decode cX4_branches 82 = .ok (.iconst 1, 1) := by decide +kernel
theorem dX4_branches_83 : decode cX4_branches 83 = .ok (.goto 4, 3) := by decide +kernel
theorem dX4_branches_86 : decode cX4_branches 86 = .ok (.iconst 0, 1) := by decide +kernel
theorem dX4_branches_87 : decode cX4_branches 87 = .ok (.ireturn, 1) := by decide +kernel
theorem dX4_branches_88 : decode cX4_branches 88 = .ok (.iload_n 1, 1) := by decide +kernel
theorem dX4_branches_89 : decode cX4_branches 89 = .ok (.iload_n 2, 1) := by decide +kernel
theorem dX4_branches_90 : decode cX4_branches 90 = .ok (.invokestatic 7, 3) := by decide +kernel
theorem dX4_branches_93 : decode cX4_branches 93 = .ok (.ireturn, 1) := by decide +kernel
theorem dX4_branches_94 : decode cX4_branches 94 = .ok (.iload_n 1, 1) := by decide +kernel
theorem dX4_branches_95 : decode cX4_branches 95 = .ok (.iload_n 2, 1) := by decide +kernel
theorem dX4_branches_96 : decode cX4_branches 96 = .ok (.invokestatic 7, 3) := by decide +kernel
theorem dX4_branches_99 : decode cX4_branches 99 = .ok (.ifCond .ne 7, 3) := by decide +kernel
theorem dX4_branches_102 : decode cX4_branches 102 = .ok (.iconst 1, 1) := by decide +kernel
theorem dX4_branches_103 : decode cX4_branches 103 = .ok (.goto 4, 3) := by decide +kernel
theorem dX4_branches_106 : decode cX4_branches 106 = .ok (.iconst 0, 1) := by decide +kernel
theorem dX4_branches_107 : decode cX4_branches 107 = .ok (.ireturn, 1) := by decide +kernel
theorem dX4_lessWithoutSign_0 : decode cX4_lessWithoutSign 0 = .ok (.iload_n 0, 1) := by decide +kernel
theorem dX4_lessWithoutSign_1 : decode cX4_lessWithoutSign 1 = .ok (.ldc 13, 2) := by decide +kernel
theorem dX4_lessWithoutSign_3 : decode cX4_lessWithoutSign 3 = .ok (.ixor, 1) := by decide +kernel
theorem dX4_lessWithoutSign_4 : decode cX4_lessWithoutSign 4 = .ok (.iload_n 1, 1) := by decide +kernel
theorem dX4_lessWithoutSign_5 : decode cX4_lessWithoutSign 5 = .ok (.ldc 13, 2) := by decide +kernel
theorem dX4_lessWithoutSign_7 : decode cX4_lessWithoutSign 7 = .ok (.ixor, 1) := by decide +kernel
theorem dX4_lessWithoutSign_8 : decode cX4_lessWithoutSign 8 = .ok (.if_icmp .ge 7, 3) := by decide +kernel
theorem dX4_lessWithoutSign_11 : decode cX4_lessWithoutSign 11 = .ok (.iconst 1, 1) := by decide +kernel
theorem dX4_lessWithoutSign_12 : decode cX4_lessWithoutSign 12 = .ok (.goto 4, 3) := by decide +kernel
theorem dX4_lessWithoutSign_15 : decode cX4_lessWithoutSign 15 = .ok (.iconst 0, 1) := by decide +kernel
theorem dX4_lessWithoutSign_16 : decode cX4_lessWithoutSign 16 = .ok (.ireturn, 1) := by decide +kernel
theorem dX5_init_0 : decode cX5_init 0 = .ok (.aload_n 0, 1) := by decide +kernel
theorem dX5_init_1 : decode cX5_init 1 = .ok (.invokespecial 1, 3) := by decide +kernel
theorem dX5_init_4 : decode cX5_init 4 = .ok (.aload_n 0, 1) := by decide +kernel
theorem dX5_init_5 : decode cX5_init 5 = .ok (.iconst 0, 1) := by decide +kernel
theorem dX5_init_6 : decode cX5_init 6 = .ok (.putfield 7, 3) := by decide +kernel
theorem dX5_init_9 : decode cX5_init 9 = .ok (.aload_n 0, 1) := by decide +kernel
theorem dX5_init_10 : decode cX5_init 10 = .ok (.iconst 0, 1) := by decide +kernel
theorem dX5_init_11 : decode cX5_init 11 = .ok (.putfield 13, 3) := by decide +kernel
theorem dX5_init_14 : decode cX5_init 14 = .ok (.return_, 1) := by decide +kernel
theorem dX6_init_0 : decode cX6_init 0 = .ok (.aload_n 0, 1) := by decide +kernel
theorem dX6_init_1 : decode cX6_init 1 = .ok (.invokespecial 3, 3) := by decide +kernel
theorem dX6_init_4 : decode cX6_init 4 = .ok (.aload_n 0, 1) := by decide +kernel
theorem dX6_init_5 : decode cX6_init 5 = .ok (.bipush 6, 2) := by decide +kernel
theorem dX6_init_7 : decode cX6_init 7 = .ok (.newarray .int, 2) := by decide +kernel
theorem dX6_init_9 : decode cX6_init 9 = .ok (.putfield 9, 3) := by decide +kernel
theorem dX6_init_12 : decode cX6_init 12 = .ok (.aload_n 0, 1) := by decide +kernel
theorem dX6_init_13 : decode cX6_init 13 = .ok (.bipush 6, 2) := by decide +kernel
theorem dX6_init_15 : decode cX6_init 15 = .ok (.newarray .int, 2) := by decide +kernel
theorem dX6_init_17 : decode cX6_init 17 = .ok (.putfield 15, 3) := by decide +kernel
theorem dX6_init_20 : decode cX6_init 20 = .ok (.aload_n 0, 1) := by decide +kernel
theorem dX6_init_21 : decode cX6_init 21 = .ok (.iconst 0, 1) := by decide +kernel
theorem dX6_init_22 : decode cX6_init 22 = .ok (.putfield 18, 3) := by decide +kernel
theorem dX6_init_25 : decode cX6_init 25 = .ok (.aload_n 0, 1) := by decide +kernel
theorem dX6_init_26 : decode cX6_init 26 = .ok (.iconst 0, 1) := by decide +kernel
theorem dX6_init_27 : decode cX6_init 27 = .ok (.putfield 22, 3) := by decide +kernel
theorem dX6_init_30 : decode cX6_init 30 = .ok (.aload_n 0, 1) := by decide +kernel
theorem dX6_init_31 : decode cX6_init 31 = .ok (.iconst 0, 1) := by decide +kernel
theorem dX6_init_32 : decode cX6_init 32 = .ok (.putfield 25, 3) := by decide +kernel
theorem dX6_init_35 : decode cX6_init 35 = .ok (.aload_n 0, 1) := by decide +kernel
theorem dX6_init_36 : decode cX6_init 36 = .ok (.iconst 0, 1) := by decide +kernel
theorem dX6_init_37 : decode cX6_init 37 = .ok (.putfield 28, 3) := by decide +kernel
theorem dX6_init_40 : decode cX6_init 40 = .ok (.return_, 1) := by decide +kernel
theorem dX6_append_0 : decode cX6_append 0 = .ok (.aload_n 0, 1) := by decide +kernel
theorem dX6_append_1 : decode cX6_append 1 = .ok (.getfield 18, 3) := by decide +kernel
theorem dX6_append_4 : decode cX6_append 4 = .ok (.bipush 6, 2) := by decide +kernel
theorem dX6_append_6 : decode cX6_append 6 = .ok (.if_icmp .ge 33, 3) := by decide +kernel
theorem dX6_append_9 : decode cX6_append 9 = .ok (.aload_n 0, 1) := by decide +kernel
theorem dX6_append_10 : decode cX6_append 10 = .ok (.getfield 9, 3) := by decide +kernel
theorem dX6_append_13 : decode cX6_append 13 = .ok (.aload_n 0, 1) := by decide +kernel
theorem dX6_append_14 : decode cX6_append 14 = .ok (.getfield 18, 3) := by decide +kernel
theorem dX6_append_17 : decode cX6_append 17 = .ok (.iload_n 1, 1) := by decide +kernel
theorem dX6_append_18 : decode cX6_append 18 = .ok (.iastore, 1) := by decide +kernel
theorem dX6_append_19 : decode cX6_append 19 = .ok (.aload_n 0, 1) := by decide +kernel
theorem dX6_append_20 : decode cX6_append 20 = .ok (.getfield 15, 3) := by decide +kernel
theorem dX6_append_23 : decode cX6_append 23 = .ok (.aload_n 0, 1) := by decide +kernel
theorem dX6_append_24 : decode cX6_append 24 = .ok (.getfield 18, 3) := by decide +kernel
theorem dX6_append_27 : decode cX6_append 27 = .ok (.iload_n 2, 1) := by decide +kernel
theorem dX6_append_28 : decode cX6_append 28 = .ok (.iastore, 1) := by decide +kernel
theorem dX6_append_29 : decode cX6_append 29 = .ok (.aload_n 0, 1) := by decide +kernel
theorem dX6_append_30 : decode cX6_append 30 = .ok (.dup, 1) := by decide +kernel
theorem dX6_append_31 : decode cX6_append 31 = .ok (.getfield 18, 3) := by decide +kernel
theorem dX6_append_34 : decode cX6_append 34 = .ok (.iconst 1, 1) := by decide +kernel
theorem dX6_append_35 : decode cX6_append 35 = .ok (.iadd, 1) := by decide +kernel
theorem dX6_append_36 : decode cX6_append 36 = .ok (.putfield 18, 3) := by decide +kernel
theorem dX6_append_39 : decode cX6_append 39 = .ok (.return_, 1) := by decide +kernel
theorem dX6_start_0 : decode cX6_start 0 = .ok (.aload_n 0, 1) := by decide +kernel
theorem dX6_start_1 : decode cX6_start 1 = .ok (.iconst 0, 1) := by decide +kernel
theorem dX6_start_2 : decode cX6_start 2 = .ok (.putfield 28, 3) := by decide +kernel
theorem dX6_start_5 : decode cX6_start 5 = .ok (.aload_n 0, 1) := by decide +kernel
theorem dX6_start_6 : decode cX6_start 6 = .ok (.iconst 0, 1) := by decide +kernel
theorem dX6_start_7 : decode cX6_start 7 = .ok (.invokevirtual 31, 3) := by decide +kernel
theorem dX6_start_10 : decode cX6_start 10 = .ok (.return_, 1) := by decide +kernel
theorem dX6_partitionNow_0 : decode cX6_partitionNow 0 = .ok (.aload_n 0, 1) := by decide +kernel
theorem dX6_partitionNow_1 : decode cX6_partitionNow 1 = .ok (.getfield 9, 3) := by decide +kernel
theorem dX6_partitionNow_4 : decode cX6_partitionNow 4 = .ok (.aload_n 0, 1) := by decide +kernel
theorem dX6_partitionNow_5 : decode cX6_partitionNow 5 = .ok (.getfield 22, 3) := by decide +kernel
theorem dX6_partitionNow_8 : decode cX6_partitionNow 8 = .ok (.iaload, 1) := by decide +kernel
theorem dX6_partitionNow_9 : decode cX6_partitionNow 9 = .ok (.ireturn, 1) := by decide +kernel
theorem dX6_endsWindow_0 : decode cX6_endsWindow 0 = .ok (.aload_n 0, 1) := by decide +kernel
theorem dX6_endsWindow_1 : decode cX6_endsWindow 1 = .ok (.dup, 1) := by decide +kernel
theorem dX6_endsWindow_2 : decode cX6_endsWindow 2 = .ok (.getfield 25, 3) := by decide +kernel
theorem dX6_endsWindow_5 : decode cX6_endsWindow 5 = .ok (.iconst 1, 1) := by decide +kernel
theorem dX6_endsWindow_6 : decode cX6_endsWindow 6 = .ok (.isub, 1) := by decide +kernel
theorem dX6_endsWindow_7 : decode cX6_endsWindow 7 = .ok (.putfield 25, 3) := by decide +kernel
theorem dX6_endsWindow_10 : decode cX6_endsWindow 10 = .ok (.aload_n 0, 1) := by decide +kernel
theorem dX6_endsWindow_11 : decode cX6_endsWindow 11 = .ok (.getfield 25, 3) := by decide +kernel
theorem dX6_endsWindow_14 : decode cX6_endsWindow 14 = .ok (.ifCond .le 5, 3) := by decide +kernel
theorem dX6_endsWindow_17 : decode cX6_endsWindow 17 = .ok (.iconst 0, 1) := by decide +kernel
theorem dX6_endsWindow_18 : decode cX6_endsWindow 18 = .ok (.ireturn, 1) := by decide +kernel
theorem dX6_endsWindow_19 : decode cX6_endsWindow 19 = .ok (.aload_n 0, 1) := by decide +kernel
theorem dX6_endsWindow_20 : decode cX6_endsWindow 20 = .ok (.aload_n 0, 1) := by decide +kernel
theorem dX6_endsWindow_21 : decode cX6_endsWindow 21 = .ok (.getfield 22, 3) := by decide +kernel
theorem dX6_endsWindow_24 : decode cX6_endsWindow 24 = .ok (.iconst 1, 1) := by decide +kernel
theorem dX6_endsWindow_25 : decode cX6_endsWindow 25 = .ok (.iadd, 1) := by decide +kernel
theorem dX6_endsWindow_26 : decode cX6_endsWindow 26 = .ok (.aload_n 0, 1) := by decide +kernel
theorem dX6_endsWindow_27 : decode cX6_endsWindow 27 = .ok (.getfield 18, 3) := by decide +kernel
theorem dX6_endsWindow_30 : decode cX6_endsWindow 30 = .ok (.if_icmp .ge 12, 3) := by decide +kernel
theorem dX6_endsWindow_33 : decode cX6_endsWindow 33 = .ok (.aload_n 0, 1) := by decide +kernel
theorem dX6_endsWindow_34 : decode cX6_endsWindow 34 = .ok (.getfield 22, 3) := by decide +kernel
theorem dX6_endsWindow_37 : decode cX6_endsWindow 37 = .ok (.iconst 1, 1) := by decide +kernel
theorem dX6_endsWindow_38 : decode cX6_endsWindow 38 = .ok (.iadd, 1) := by decide +kernel
theorem dX6_endsWindow_39 : decode cX6_endsWindow 39 = .ok (.goto 4, 3) := by decide +kernel
theorem dX6_endsWindow_42 : decode cX6_endsWindow 42 = .ok (.iconst 0, 1) := by decide +kernel
theorem dX6_endsWindow_43 : decode cX6_endsWindow 43 = .ok (.invokevirtual 31, 3) := by decide +kernel
theorem dX6_endsWindow_46 : decode cX6_endsWindow 46 = .ok (.iconst 1, 1) := by decide +kernel
theorem dX6_endsWindow_47 : decode cX6_endsWindow 47 = .ok (.ireturn, 1) := by decide +kernel
theorem dX6_begin_0 : decode cX6_begin 0 = .ok (.aload_n 0, 1) := by decide +kernel
theorem dX6_begin_1 : decode cX6_begin 1 = .ok (.iload_n 1, 1) := by decide +kernel
theorem dX6_begin_2 : decode cX6_begin 2 = .ok (.putfield 22, 3) := by decide +kernel
theorem dX6_begin_5 : decode cX6_begin 5 = .ok (.aload_n 0, 1) := by decide +kernel
theorem dX6_begin_6 : decode cX6_begin 6 = .ok (.aload_n 0, 1) := by decide +kernel
theorem dX6_begin_7 : decode cX6_begin 7 = .ok (.getfield 15, 3) := by decide +kernel
theorem dX6_begin_10 : decode cX6_begin 10 = .ok (.iload_n 1, 1) := by decide +kernel
theorem dX6_begin_11 : decode cX6_begin 11 = .ok (.iaload, 1) := by decide +kernel
theorem dX6_begin_12 : decode cX6_begin 12 = .ok (.putfield 25, 3) := by decide +kernel
theorem dX6_begin_15 : decode cX6_begin 15 = .ok (.aload_n 0, 1) := by decide +kernel
theorem dX6_begin_16 : decode cX6_begin 16 = .ok (.dup, 1) := by decide +kernel
theorem dX6_begin_17 : decode cX6_begin 17 = .ok (.getfield 28, 3) := by decide +kernel
theorem dX6_begin_20 : decode cX6_begin 20 = .ok (.iconst 1, 1) := by decide +kernel
theorem dX6_begin_21 : decode cX6_begin 21 = .ok (.iadd, 1) := by decide +kernel
theorem dX6_begin_22 : decode cX6_begin 22 = .ok (.putfield 28, 3) := by decide +kernel
theorem dX6_begin_25 : decode cX6_begin 25 = .ok (.return_, 1) := by decide +kernel

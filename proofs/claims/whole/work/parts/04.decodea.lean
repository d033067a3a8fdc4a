theorem d_IS_init_0 : decode b_IS_init 0 = .ok (.aload_n 0, 1) := by decide +kernel
theorem d_IS_init_1 : decode b_IS_init 1 = .ok (.invokespecial 1, 3) := by decide +kernel
theorem d_IS_init_4 : decode b_IS_init 4 = .ok (.aload_n 0, 1) := by decide +kernel
theorem d_IS_init_5 : decode b_IS_init 5 = .ok (.new 7, 3) := by decide +kernel
theorem d_IS_init_8 : decode b_IS_init 8 = .ok (.dup, 1) := by decide +kernel
theorem d_IS_init_9 : decode b_IS_init 9 = .ok (.invokespecial 9, 3) := by decide +kernel
theorem d_IS_init_12 : decode b_IS_init 12 = .ok (.putfield 10, 3) := by decide +kernel
theorem d_IS_init_15 : decode b_IS_init 15 = .ok (.aload_n 0, 1) := by decide +kernel
theorem d_IS_init_16 : decode b_IS_init 16 = .ok (.new 7, 3) := by decide +kernel
theorem d_IS_init_19 : decode b_IS_init 19 = .ok (.dup, 1) := by decide +kernel
theorem d_IS_init_20 : decode b_IS_init 20 = .ok (.invokespecial 9, 3) := by decide +kernel
theorem d_IS_init_23 : decode b_IS_init 23 = .ok (.putfield 16, 3) := by decide +kernel
theorem d_IS_init_26 : decode b_IS_init 26 = .ok (.aload_n 0, 1) := by decide +kernel
theorem d_IS_init_27 : decode b_IS_init 27 = .ok (.new 19, 3) := by decide +kernel
theorem d_IS_init_30 : decode b_IS_init 30 = .ok (.dup, 1) := by decide +kernel
theorem d_IS_init_31 : decode b_IS_init 31 = .ok (.invokespecial 21, 3) := by decide +kernel
theorem d_IS_init_34 : decode b_IS_init 34 = .ok (.putfield 22, 3) := by decide +kernel
theorem d_IS_init_37 : decode b_IS_init 37 = .ok (.aload_n 0, 1) := by decide +kernel
theorem d_IS_init_38 : decode b_IS_init 38 = .ok (.new 19, 3) := by decide +kernel
theorem d_IS_init_41 : decode b_IS_init 41 = .ok (.dup, 1) := by decide +kernel
theorem d_IS_init_42 : decode b_IS_init 42 = .ok (.invokespecial 21, 3) := by decide +kernel
theorem d_IS_init_45 : decode b_IS_init 45 = .ok (.putfield 26, 3) := by decide +kernel
theorem d_IS_init_48 : decode b_IS_init 48 = .ok (.aload_n 0, 1) := by decide +kernel
theorem d_IS_init_49 : decode b_IS_init 49 = .ok (.new 29, 3) := by decide +kernel
theorem d_IS_init_52 : decode b_IS_init 52 = .ok (.dup, 1) := by decide +kernel
theorem d_IS_init_53 : decode b_IS_init 53 = .ok (.invokespecial 31, 3) := by decide +kernel
theorem d_IS_init_56 : decode b_IS_init 56 = .ok (.putfield 32, 3) := by decide +kernel
theorem d_IS_init_59 : decode b_IS_init 59 = .ok (.aload_n 0, 1) := by decide +kernel
theorem d_IS_init_60 : decode b_IS_init 60 = .ok (.bipush 40, 2) := by decide +kernel
theorem d_IS_init_62 : decode b_IS_init 62 = .ok (.newarray .boolean, 2) := by decide +kernel
theorem d_IS_init_64 : decode b_IS_init 64 = .ok (.putfield 36, 3) := by decide +kernel
theorem d_IS_init_67 : decode b_IS_init 67 = .ok (.aload_n 0, 1) := by decide +kernel
theorem d_IS_init_68 : decode b_IS_init 68 = .ok (.iconst 0, 1) := by decide +kernel
theorem d_IS_init_69 : decode b_IS_init 69 = .ok (.putfield 40, 3) := by decide +kernel
theorem d_IS_init_72 : decode b_IS_init 72 = .ok (.aload_n 0, 1) := by decide +kernel
theorem d_IS_init_73 : decode b_IS_init 73 = .ok (.getfield 10, 3) := by decide +kernel
theorem d_IS_init_76 : decode b_IS_init 76 = .ok (.new 44, 3) := by decide +kernel
theorem d_IS_init_79 : decode b_IS_init 79 = .ok (.dup, 1) := by decide +kernel
theorem d_IS_init_80 : decode b_IS_init 80 = .ok (.iconst (-1), 1) := by decide +kernel
theorem d_IS_init_81 : decode b_IS_init 81 = .ok (.new 29, 3) := by decide +kernel
theorem d_IS_init_84 : decode b_IS_init 84 = .ok (.dup, 1) := by decide +kernel
theorem d_IS_init_85 : decode b_IS_init 85 = .ok (.invokespecial 31, 3) := by decide +kernel
theorem d_IS_init_88 : decode b_IS_init 88 = .ok (.iconst 0, 1) := by decide +kernel
theorem d_IS_init_89 : decode b_IS_init 89 = .ok (.newarray .int, 2) := by decide +kernel
theorem d_IS_init_91 : decode b_IS_init 91 = .ok (.invokespecial 46, 3) := by decide +kernel
theorem d_IS_init_94 : decode b_IS_init 94 = .ok (.invokevirtual 49, 3) := by decide +kernel
theorem d_IS_init_97 : decode b_IS_init 97 = .ok (.pop, 1) := by decide +kernel
theorem d_IS_init_98 : decode b_IS_init 98 = .ok (.return_, 1) := by decide +kernel
theorem d_AL_init_0 : decode b_AL_init 0 = .ok (.aload_n 0, 1) := by decide +kernel
theorem d_AL_init_1 : decode b_AL_init 1 = .ok (.invokespecial 1, 3) := by decide +kernel
theorem d_AL_init_4 : decode b_AL_init 4 = .ok (.aload_n 0, 1) := by decide +kernel
theorem d_AL_init_5 : decode b_AL_init 5 = .ok (.getstatic 39, 3) := by decide +kernel
theorem d_AL_init_8 : decode b_AL_init 8 = .ok (.putfield 9, 3) := by decide +kernel
theorem d_AL_init_11 : decode b_AL_init 11 = .ok (.return_, 1) := by decide +kernel
theorem d_AB_init_0 : decode b_AB_init 0 = .ok (.aload_n 0, 1) := by decide +kernel
theorem d_AB_init_1 : decode b_AB_init 1 = .ok (.invokespecial 1, 3) := by decide +kernel
theorem d_AB_init_4 : decode b_AB_init 4 = .ok (.aload_n 0, 1) := by decide +kernel
theorem d_AB_init_5 : decode b_AB_init 5 = .ok (.iconst 0, 1) := by decide +kernel
theorem d_AB_init_6 : decode b_AB_init 6 = .ok (.putfield 7, 3) := by decide +kernel
theorem d_AB_init_9 : decode b_AB_init 9 = .ok (.return_, 1) := by decide +kernel
theorem d_AC_init_0 : decode b_AC_init 0 = .ok (.aload_n 0, 1) := by decide +kernel
theorem d_AC_init_1 : decode b_AC_init 1 = .ok (.invokespecial 1, 3) := by decide +kernel
theorem d_AC_init_4 : decode b_AC_init 4 = .ok (.return_, 1) := by decide +kernel
theorem d_ST_init_0 : decode b_ST_init 0 = .ok (.aload_n 0, 1) := by decide +kernel
theorem d_ST_init_1 : decode b_ST_init 1 = .ok (.invokespecial 3, 3) := by decide +kernel
theorem d_ST_init_4 : decode b_ST_init 4 = .ok (.aload_n 0, 1) := by decide +kernel
theorem d_ST_init_5 : decode b_ST_init 5 = .ok (.bipush 40, 2) := by decide +kernel
theorem d_ST_init_7 : decode b_ST_init 7 = .ok (.newarray .boolean, 2) := by decide +kernel
theorem d_ST_init_9 : decode b_ST_init 9 = .ok (.putfield 9, 3) := by decide +kernel
theorem d_ST_init_12 : decode b_ST_init 12 = .ok (.aload_n 0, 1) := by decide +kernel
theorem d_ST_init_13 : decode b_ST_init 13 = .ok (.getfield 9, 3) := by decide +kernel
theorem d_ST_init_16 : decode b_ST_init 16 = .ok (.iconst 0, 1) := by decide +kernel
theorem d_ST_init_17 : decode b_ST_init 17 = .ok (.iconst 1, 1) := by decide +kernel
theorem d_ST_init_18 : decode b_ST_init 18 = .ok (.bastore, 1) := by decide +kernel
theorem d_ST_init_19 : decode b_ST_init 19 = .ok (.aload_n 0, 1) := by decide +kernel
theorem d_ST_init_20 : decode b_ST_init 20 = .ok (.bipush 6, 2) := by decide +kernel
theorem d_ST_init_22 : decode b_ST_init 22 = .ok (.newarray .int, 2) := by decide +kernel
theorem d_ST_init_24 : decode b_ST_init 24 = .ok (.putfield 15, 3) := by decide +kernel
theorem d_ST_init_27 : decode b_ST_init 27 = .ok (.aload_n 0, 1) := by decide +kernel
theorem d_ST_init_28 : decode b_ST_init 28 = .ok (.getfield 15, 3) := by decide +kernel
theorem d_ST_init_31 : decode b_ST_init 31 = .ok (.bipush 40, 2) := by decide +kernel
theorem d_ST_init_33 : decode b_ST_init 33 = .ok (.invokestatic 19, 3) := by decide +kernel
theorem d_ST_init_36 : decode b_ST_init 36 = .ok (.return_, 1) := by decide +kernel
theorem d_AR_fillI_0 : decode b_AR_fillI 0 = .ok (.iconst 0, 1) := by decide +kernel
theorem d_AR_fillI_1 : decode b_AR_fillI 1 = .ok (.istore_n 2, 1) := by decide +kernel
theorem d_AR_fillI_2 : decode b_AR_fillI 2 = .ok (.aload_n 0, 1) := by decide +kernel
theorem d_AR_fillI_3 : decode b_AR_fillI 3 = .ok (.arraylength, 1) := by decide +kernel
theorem d_AR_fillI_4 : decode b_AR_fillI 4 = .ok (.istore_n 3, 1) := by decide +kernel
theorem d_AR_fillI_5 : decode b_AR_fillI 5 = .ok (.iload_n 2, 1) := by decide +kernel
theorem d_AR_fillI_6 : decode b_AR_fillI 6 = .ok (.iload_n 3, 1) := by decide +kernel
theorem d_AR_fillI_7 : decode b_AR_fillI 7 = .ok (.if_icmp .ge 13, 3) := by decide +kernel
theorem d_AR_fillI_10 : decode b_AR_fillI 10 = .ok (.aload_n 0, 1) := by decide +kernel
theorem d_AR_fillI_11 : decode b_AR_fillI 11 = .ok (.iload_n 2, 1) := by decide +kernel
theorem d_AR_fillI_12 : decode b_AR_fillI 12 = .ok (.iload_n 1, 1) := by decide +kernel
theorem d_AR_fillI_13 : decode b_AR_fillI 13 = .ok (.iastore, 1) := by decide +kernel
theorem d_AR_fillI_14 : decode b_AR_fillI 14 = .ok (.iinc 2 1, 3) := by decide +kernel
theorem d_AR_fillI_17 : decode b_AR_fillI 17 = .ok (.goto (-12), 3) := by decide +kernel
theorem d_AR_fillI_20 : decode b_AR_fillI 20 = .ok (.return_, 1) := by decide +kernel
theorem d_TR_init_0 : decode b_TR_init 0 = .ok (.aload_n 0, 1) := by decide +kernel
theorem d_TR_init_1 : decode b_TR_init 1 = .ok (.invokespecial 3, 3) := by decide +kernel
theorem d_TR_init_4 : decode b_TR_init 4 = .ok (.aload_n 0, 1) := by decide +kernel
theorem d_TR_init_5 : decode b_TR_init 5 = .ok (.bipush 125, 2) := by decide +kernel
theorem d_TR_init_7 : decode b_TR_init 7 = .ok (.newarray .long, 2) := by decide +kernel
theorem d_TR_init_9 : decode b_TR_init 9 = .ok (.putfield 9, 3) := by decide +kernel
theorem d_TR_init_12 : decode b_TR_init 12 = .ok (.aload_n 0, 1) := by decide +kernel
theorem d_TR_init_13 : decode b_TR_init 13 = .ok (.getfield 9, 3) := by decide +kernel
theorem d_TR_init_16 : decode b_TR_init 16 = .ok (.ldc2_w 15, 3) := by decide +kernel
theorem d_TR_init_19 : decode b_TR_init 19 = .ok (.invokestatic 17, 3) := by decide +kernel
theorem d_TR_init_22 : decode b_TR_init 22 = .ok (.aload_n 0, 1) := by decide +kernel
theorem d_TR_init_23 : decode b_TR_init 23 = .ok (.getfield 9, 3) := by decide +kernel
theorem d_TR_init_26 : decode b_TR_init 26 = .ok (.iconst 0, 1) := by decide +kernel
theorem d_TR_init_27 : decode b_TR_init 27 = .ok (.ldc2_w 23, 3) := by decide +kernel
theorem d_TR_init_30 : decode b_TR_init 30 = .ok (.lastore, 1) := by decide +kernel
theorem d_TR_init_31 : decode b_TR_init 31 = .ok (.return_, 1) := by decide +kernel
theorem d_AR_fillJ_0 : decode b_AR_fillJ 0 = .ok (.iconst 0, 1) := by decide +kernel
theorem d_AR_fillJ_1 : decode b_AR_fillJ 1 = .ok (.istore_n 3, 1) := by decide +kernel
theorem d_AR_fillJ_2 : decode b_AR_fillJ 2 = .ok (.aload_n 0, 1) := by decide +kernel
theorem d_AR_fillJ_3 : decode b_AR_fillJ 3 = .ok (.arraylength, 1) := by decide +kernel
theorem d_AR_fillJ_4 : decode b_AR_fillJ 4 = .ok (.istore 4, 2) := by decide +kernel
theorem d_AR_fillJ_6 : decode b_AR_fillJ 6 = .ok (.iload_n 3, 1) := by decide +kernel
theorem d_AR_fillJ_7 : decode b_AR_fillJ 7 = .ok (.iload 4, 2) := by decide +kernel
theorem d_AR_fillJ_9 : decode b_AR_fillJ 9 = .ok (.if_icmp .ge 13, 3) := by decide +kernel
theorem d_AR_fillJ_12 : decode b_AR_fillJ 12 = .ok (.aload_n 0, 1) := by decide +kernel
theorem d_AR_fillJ_13 : decode b_AR_fillJ 13 = .ok (.iload_n 3, 1) := by decide +kernel
theorem d_AR_fillJ_14 : decode b_AR_fillJ 14 = .ok (.lload_n 1, 1) := by decide +kernel
theorem d_AR_fillJ_15 : decode b_AR_fillJ 15 = .ok (.lastore, 1) := by decide +kernel
theorem d_AR_fillJ_16 : decode b_AR_fillJ 16 = .ok (.iinc 3 1, 3) := by decide +kernel
theorem d_AR_fillJ_19 : decode b_AR_fillJ 19 = .ok (.goto (-13), 3) := by decide +kernel
theorem d_AR_fillJ_22 : decode b_AR_fillJ 22 = .ok (.return_, 1) := by decide +kernel
theorem d_IM_init_0 : decode b_IM_init 0 = .ok (.aload_n 0, 1) := by decide +kernel
theorem d_IM_init_1 : decode b_IM_init 1 = .ok (.invokespecial 1, 3) := by decide +kernel
theorem d_IM_init_4 : decode b_IM_init 4 = .ok (.aload_n 0, 1) := by decide +kernel
theorem d_IM_init_5 : decode b_IM_init 5 = .ok (.iload_n 1, 1) := by decide +kernel
theorem d_IM_init_6 : decode b_IM_init 6 = .ok (.putfield 7, 3) := by decide +kernel
theorem d_IM_init_9 : decode b_IM_init 9 = .ok (.aload_n 0, 1) := by decide +kernel
theorem d_IM_init_10 : decode b_IM_init 10 = .ok (.aload_n 2, 1) := by decide +kernel
theorem d_IM_init_11 : decode b_IM_init 11 = .ok (.putfield 13, 3) := by decide +kernel
theorem d_IM_init_14 : decode b_IM_init 14 = .ok (.aload_n 0, 1) := by decide +kernel
theorem d_IM_init_15 : decode b_IM_init 15 = .ok (.aload_n 3, 1) := by decide +kernel
theorem d_IM_init_16 : decode b_IM_init 16 = .ok (.putfield 17, 3) := by decide +kernel
theorem d_IM_init_19 : decode b_IM_init 19 = .ok (.return_, 1) := by decide +kernel
theorem d_AL_add1_0 : decode b_AL_add1 0 = .ok (.aload_n 0, 1) := by decide +kernel
theorem d_AL_add1_1 : decode b_AL_add1 1 = .ok (.dup, 1) := by decide +kernel
theorem d_AL_add1_2 : decode b_AL_add1 2 = .ok (.getfield 63, 3) := by decide +kernel
theorem d_AL_add1_5 : decode b_AL_add1 5 = .ok (.iconst 1, 1) := by decide +kernel
theorem d_AL_add1_6 : decode b_AL_add1 6 = .ok (.iadd, 1) := by decide +kernel
theorem d_AL_add1_7 : decode b_AL_add1 7 = .ok (.putfield 63, 3) := by decide +kernel
theorem d_AL_add1_10 : decode b_AL_add1 10 = .ok (.aload_n 0, 1) := by decide +kernel
theorem d_AL_add1_11 : decode b_AL_add1 11 = .ok (.aload_n 1, 1) := by decide +kernel
theorem d_AL_add1_12 : decode b_AL_add1 12 = .ok (.aload_n 0, 1) := by decide +kernel
theorem d_AL_add1_13 : decode b_AL_add1 13 = .ok (.getfield 9, 3) := by decide +kernel
theorem d_AL_add1_16 : decode b_AL_add1 16 = .ok (.aload_n 0, 1) := by decide +kernel
theorem d_AL_add1_17 : decode b_AL_add1 17 = .ok (.getfield 48, 3) := by decide +kernel
theorem d_AL_add1_20 : decode b_AL_add1 20 = .ok (.invokevirtual 131, 3) := by decide +kernel
theorem d_AL_add1_23 : decode b_AL_add1 23 = .ok (.iconst 1, 1) := by decide +kernel
theorem d_AL_add1_24 : decode b_AL_add1 24 = .ok (.ireturn, 1) := by decide +kernel
theorem d_AL_add3_0 : decode b_AL_add3 0 = .ok (.iload_n 3, 1) := by decide +kernel
theorem d_AL_add3_1 : decode b_AL_add3 1 = .ok (.aload_n 2, 1) := by decide +kernel
theorem d_AL_add3_2 : decode b_AL_add3 2 = .ok (.arraylength, 1) := by decide +kernel
theorem d_AL_add3_3 : decode b_AL_add3 3 = .ok (.if_icmp .ne 8, 3) := by decide +kernel
theorem d_AL_add3_6 : decode b_AL_add3 6 = .ok (.aload_n 0, 1) := by decide +kernel
theorem d_AL_add3_7 : decode b_AL_add3 7 = .ok (.invokevirtual 129, 3) := by decide +kernel
theorem d_AL_add3_10 : decode b_AL_add3 10 = .ok (.astore_n 2, 1) := by decide +kernel
theorem d_AL_add3_11 : decode b_AL_add3 11 = .ok (.aload_n 2, 1) := by decide +kernel
theorem d_AL_add3_12 : decode b_AL_add3 12 = .ok (.iload_n 3, 1) := by decide +kernel
theorem d_AL_add3_13 : decode b_AL_add3 13 = .ok (.aload_n 1, 1) := by decide +kernel
theorem d_AL_add3_14 : decode b_AL_add3 14 = .ok (.aastore, 1) := by decide +kernel
theorem d_AL_add3_15 : decode b_AL_add3 15 = .ok (.aload_n 0, 1) := by decide +kernel
theorem d_AL_add3_16 : decode b_AL_add3 16 = .ok (.iload_n 3, 1) := by decide +kernel
theorem d_AL_add3_17 : decode b_AL_add3 17 = .ok (.iconst 1, 1) := by decide +kernel
theorem d_AL_add3_18 : decode b_AL_add3 18 = .ok (.iadd, 1) := by decide +kernel
theorem d_AL_add3_19 : decode b_AL_add3 19 = .ok (.putfield 48, 3) := by decide +kernel
theorem d_AL_add3_22 : decode b_AL_add3 22 = .ok (.return_, 1) := by decide +kernel
theorem d_AL_grow0_0 : decode b_AL_grow0 0 = .ok (.aload_n 0, 1) := by decide +kernel
theorem d_AL_grow0_1 : decode b_AL_grow0 1 = .ok (.aload_n 0, 1) := by decide +kernel
theorem d_AL_grow0_2 : decode b_AL_grow0 2 = .ok (.getfield 48, 3) := by decide +kernel
theorem d_AL_grow0_5 : decode b_AL_grow0 5 = .ok (.iconst 1, 1) := by decide +kernel
theorem d_AL_grow0_6 : decode b_AL_grow0 6 = .ok (.iadd, 1) := by decide +kernel
theorem d_AL_grow0_7 : decode b_AL_grow0 7 = .ok (.invokevirtual 69, 3) := by decide +kernel
theorem d_AL_grow0_10 : decode b_AL_grow0 10 = .ok (.areturn, 1) := by decide +kernel
theorem d_AL_growI_0 : decode b_AL_growI 0 = .ok (.aload_n 0, 1) := by decide +kernel
theorem d_AL_growI_1 : decode b_AL_growI 1 = .ok (.getfield 9, 3) := by decide +kernel
theorem d_AL_growI_4 : decode b_AL_growI 4 = .ok (.arraylength, 1) := by decide +kernel
theorem d_AL_growI_5 : decode b_AL_growI 5 = .ok (.istore_n 2, 1) := by decide +kernel
theorem d_AL_growI_6 : decode b_AL_growI 6 = .ok (.iload_n 2, 1) := by decide +kernel
theorem d_AL_growI_7 : decode b_AL_growI 7 = .ok (.ifCond .gt 13, 3) := by decide +kernel
theorem d_AL_growI_10 : decode b_AL_growI 10 = .ok (.aload_n 0, 1) := by decide +kernel
theorem d_AL_growI_11 : decode b_AL_growI 11 = .ok (.getfield 9, 3) := by decide +kernel
theorem d_AL_growI_14 : decode b_AL_growI 14 = .ok (.getstatic 39, 3) := by decide +kernel
theorem d_AL_growI_17 : decode b_AL_growI 17 = .ok (.if_acmp .eq 28, 3) := by decide +kernel
theorem d_AL_growI_20 : decode b_AL_growI 20 = .ok (.iload_n 2, 1) := by decide +kernel
theorem d_AL_growI_21 : decode b_AL_growI 21 = .ok (.iload_n 1, 1) := by decide +kernel
theorem d_AL_growI_22 : decode b_AL_growI 22 = .ok (.iload_n 2, 1) := by decide +kernel
theorem d_AL_growI_23 : decode b_AL_growI 23 = .ok (.isub, 1) := by decide +kernel
theorem d_AL_growI_24 : decode b_AL_growI 24 = .ok (.iload_n 2, 1) := by decide +kernel
theorem d_AL_growI_25 : decode b_AL_growI 25 = .ok (.iconst 1, 1) := by decide +kernel
theorem d_AL_growI_26 : decode b_AL_growI 26 = .ok (.ishr, 1) := by decide +kernel
theorem d_AL_growI_27 : decode b_AL_growI 27 = .ok (.invokestatic 73, 3) := by decide +kernel
theorem d_AL_growI_30 : decode b_AL_growI 30 = .ok (.istore_n 3, 1) := by decide +kernel
theorem d_AL_growI_31 : decode b_AL_growI 31 = .ok (.aload_n 0, 1) := by decide +kernel
theorem d_AL_growI_32 : decode b_AL_growI 32 = .ok (.aload_n 0, 1) := by decide +kernel
theorem d_AL_growI_33 : decode b_AL_growI 33 = .ok (.getfield 9, 3) := by decide +kernel
theorem d_AL_growI_36 : decode b_AL_growI 36 = .ok (.iload_n 3, 1) := by decide +kernel
theorem d_AL_growI_37 : decode b_AL_growI 37 = .ok (.invokestatic 66, 3) := by decide +kernel
theorem d_AL_growI_40 : decode b_AL_growI 40 = .ok (.dup_x1, 1) := by decide +kernel
theorem d_AL_growI_41 : decode b_AL_growI 41 = .ok (.putfield 9, 3) := by decide +kernel
theorem d_AL_growI_44 : decode b_AL_growI 44 = .ok (.areturn, 1) := by decide +kernel
theorem d_AL_growI_45 : decode b_AL_growI 45 = .ok (.aload_n 0, 1) := by decide +kernel
theorem d_AL_growI_46 : decode b_AL_growI 46 = .ok (.bipush 10, 2) := by decide +kernel
theorem d_AL_growI_48 : decode b_AL_growI 48 = .ok (.iload_n 1, 1) := by decide +kernel
theorem d_AL_growI_49 : decode b_AL_growI 49 = .ok (.invokestatic 79, 3) := by decide +kernel
theorem d_AL_growI_52 : decode b_AL_growI 52 = .ok (.anewarray 7, 3) := by decide +kernel
theorem d_AL_growI_55 : decode b_AL_growI 55 = .ok (.dup_x1, 1) := by decide +kernel
theorem d_AL_growI_56 : decode b_AL_growI 56 = .ok (.putfield 9, 3) := by decide +kernel
theorem d_AL_growI_59 : decode b_AL_growI 59 = .ok (.areturn, 1) := by decide +kernel
theorem d_SU_newLength_0 : decode b_SU_newLength 0 = .ok (.iload_n 0, 1) := by decide +kernel
theorem d_SU_newLength_1 : decode b_SU_newLength 1 = .ok (.iload_n 1, 1) := by decide +kernel
theorem d_SU_newLength_2 : decode b_SU_newLength 2 = .ok (.iload_n 2, 1) := by decide +kernel
theorem d_SU_newLength_3 : decode b_SU_newLength 3 = .ok (.invokestatic 194, 3) := by decide +kernel
theorem d_SU_newLength_6 : decode b_SU_newLength 6 = .ok (.iadd, 1) := by decide +kernel
theorem d_SU_newLength_7 : decode b_SU_newLength 7 = .ok (.istore_n 3, 1) := by decide +kernel
theorem d_SU_newLength_8 : decode b_SU_newLength 8 = .ok (.iconst 0, 1) := by decide +kernel
theorem d_SU_newLength_9 : decode b_SU_newLength 9 = .ok (.iload_n 3, 1) := by decide +kernel
theorem d_SU_newLength_10 : decode b_SU_newLength 10 = .ok (.if_icmp .ge 11, 3) := by decide +kernel
theorem d_SU_newLength_13 : decode b_SU_newLength 13 = .ok (.iload_n 3, 1) := by decide +kernel
theorem d_SU_newLength_14 : decode b_SU_newLength 14 = .ok (.ldc 200, 2) := by decide +kernel
theorem d_SU_newLength_16 : decode b_SU_newLength 16 = .ok (.if_icmp .gt 5, 3) := by decide +kernel
theorem d_SU_newLength_19 : decode b_SU_newLength 19 = .ok (.iload_n 3, 1) := by decide +kernel
theorem d_SU_newLength_20 : decode b_SU_newLength 20 = .ok (.ireturn, 1) := by decide +kernel
theorem d_SU_newLength_21 : decode b_SU_newLength 21 = .ok (.iload_n 0, 1) := by decide +kernel
theorem d_SU_newLength_22 : decode b_SU_newLength 22 = .ok (.iload_n 1, 1) := by decide +kernel
theorem d_SU_newLength_23 : decode b_SU_newLength 23 = .ok (.invokestatic 201, 3) := by decide +kernel
theorem d_SU_newLength_26 : decode b_SU_newLength 26 = .ok (.ireturn, 1) := by decide +kernel
theorem d_MA_max_0 : decode b_MA_max 0 = .ok (.iload_n 0, 1) := by decide +kernel
theorem d_MA_max_1 : decode b_MA_max 1 = .ok (.iload_n 1, 1) := by decide +kernel
theorem d_MA_max_2 : decode b_MA_max 2 = .ok (.if_icmp .lt 7, 3) := by decide +kernel
theorem d_MA_max_5 : decode b_MA_max 5 = .ok (.iload_n 0, 1) := by decide +kernel
theorem d_MA_max_6 : decode b_MA_max 6 = .ok (.goto 4, 3) := by decide +kernel
theorem d_MA_max_9 : decode b_MA_max 9 = .ok (.iload_n 1, 1) := by decide +kernel
theorem d_MA_max_10 : decode b_MA_max 10 = .ok (.ireturn, 1) := by decide +kernel
theorem d_SU_hugeLength_0 : decode b_SU_hugeLength 0 = .ok (.iload_n 0, 1) := by decide +kernel
theorem d_SU_hugeLength_1 : decode b_SU_hugeLength 1 = .ok (.iload_n 1, 1) := by decide +kernel
theorem d_SU_hugeLength_2 : decode b_SU_hugeLength 2 = .ok (.iadd, 1) := by decide +kernel
theorem d_SU_hugeLength_3 : decode b_SU_hugeLength 3 = .ok (.istore_n 2, 1) := by decide +kernel
theorem d_SU_hugeLength_4 : decode b_SU_hugeLength 4 = .ok (.iload_n 2, 1) := by decide +kernel
theorem d_SU_hugeLength_5 : decode b_SU_hugeLength 5 = .ok (.ifCond .ge 44, 3) := by decide +kernel
theorem d_SU_hugeLength_8 : decode b_SU_hugeLength 8 = .ok (.new 204, 3) := by decide +kernel
theorem d_SU_hugeLength_11 : decode b_SU_hugeLength 11 = .ok (.dup, 1) := by decide +kernel
theorem d_SU_hugeLength_12 : decode b_SU_hugeLength 12 = .ok (.new 89, 3) := by decide +kernel
theorem d_SU_hugeLength_15 : decode b_SU_hugeLength 15 = .ok (.dup, 1) := by decide +kernel
theorem d_SU_hugeLength_16 : decode b_SU_hugeLength 16 = .ok (.invokespecial 91, 3) := by decide +kernel
theorem d_SU_hugeLength_19 : decode b_SU_hugeLength 19 = .ok (.ldc 206, 2) := by decide +kernel
theorem d_SU_hugeLength_21 : decode b_SU_hugeLength 21 = .ok (.invokevirtual 94, 3) := by decide +kernel
theorem d_SU_hugeLength_24 : decode b_SU_hugeLength 24 = .ok (.iload_n 0, 1) := by decide +kernel
theorem d_SU_hugeLength_25 : decode b_SU_hugeLength 25 = .ok (.invokevirtual 98, 3) := by decide +kernel
theorem d_SU_hugeLength_28 : decode b_SU_hugeLength 28 = .ok (.ldc 208, 2) := by decide +kernel
theorem d_SU_hugeLength_30 : decode b_SU_hugeLength 30 = .ok (.invokevirtual 94, 3) := by decide +kernel
theorem d_SU_hugeLength_33 : decode b_SU_hugeLength 33 = .ok (.iload_n 1, 1) := by decide +kernel
theorem d_SU_hugeLength_34 : decode b_SU_hugeLength 34 = .ok (.invokevirtual 98, 3) := by decide +kernel
theorem d_SU_hugeLength_37 : decode b_SU_hugeLength 37 = .ok (.ldc 210, 2) := by decide +kernel
theorem d_SU_hugeLength_39 : decode b_SU_hugeLength 39 = .ok (.invokevirtual 94, 3) := by decide +kernel
theorem d_SU_hugeLength_42 : decode b_SU_hugeLength 42 = .ok (.invokevirtual 101, 3) := by decide +kernel
theorem d_SU_hugeLength_45 : decode b_SU_hugeLength 45 = .ok (.invokespecial 212, 3) := by decide +kernel
theorem d_SU_hugeLength_48 : decode b_SU_hugeLength 48 = .ok (.athrow, 1) := by decide +kernel
theorem d_SU_hugeLength_49 : decode b_SU_hugeLength 49 = .ok (.iload_n 2, 1) := by decide +kernel
theorem d_SU_hugeLength_50 : decode b_SU_hugeLength 50 = .ok (.ldc 200, 2) := by decide +kernel
theorem d_SU_hugeLength_52 : decode b_SU_hugeLength 52 = .ok (.if_icmp .gt 6, 3) := by decide +kernel
theorem d_SU_hugeLength_55 : decode b_SU_hugeLength 55 = .ok (.ldc 200, 2) := by decide +kernel
theorem d_SU_hugeLength_57 : decode b_SU_hugeLength 57 = .ok (.ireturn, 1) := by decide +kernel
theorem d_SU_hugeLength_58 : decode b_SU_hugeLength 58 = .ok (.iload_n 2, 1) := by decide +kernel
theorem d_SU_hugeLength_59 : decode b_SU_hugeLength 59 = .ok (.ireturn, 1) := by decide +kernel
theorem d_AR_copyOf2_0 : decode b_AR_copyOf2 0 = .ok (.aload_n 0, 1) := by decide +kernel
theorem d_AR_copyOf2_1 : decode b_AR_copyOf2 1 = .ok (.iload_n 1, 1) := by decide +kernel
theorem d_AR_copyOf2_2 : decode b_AR_copyOf2 2 = .ok (.aload_n 0, 1) := by decide +kernel
theorem d_AR_copyOf2_3 : decode b_AR_copyOf2 3 = .ok (.invokevirtual 86, 3) := by decide +kernel
theorem d_AR_copyOf2_6 : decode b_AR_copyOf2 6 = .ok (.invokestatic 300, 3) := by decide +kernel
theorem d_AR_copyOf2_9 : decode b_AR_copyOf2 9 = .ok (.areturn, 1) := by decide +kernel
theorem d_AR_copyOf3_0 : decode b_AR_copyOf3 0 = .ok (.aload_n 2, 1) := by decide +kernel
theorem d_AR_copyOf3_1 : decode b_AR_copyOf3 1 = .ok (.ldc 110, 2) := by decide +kernel
theorem d_AR_copyOf3_3 : decode b_AR_copyOf3 3 = .ok (.if_acmp .ne 10, 3) := by decide +kernel
theorem d_AR_copyOf3_6 : decode b_AR_copyOf3 6 = .ok (.iload_n 1, 1) := by decide +kernel
theorem d_AR_copyOf3_7 : decode b_AR_copyOf3 7 = .ok (.anewarray 2, 3) := by decide +kernel
theorem d_AR_copyOf3_10 : decode b_AR_copyOf3 10 = .ok (.goto 14, 3) := by decide +kernel
theorem d_AR_copyOf3_13 : decode b_AR_copyOf3 13 = .ok (.aload_n 2, 1) := by decide +kernel
theorem d_AR_copyOf3_14 : decode b_AR_copyOf3 14 = .ok (.invokevirtual 90, 3) := by decide +kernel
theorem d_AR_copyOf3_17 : decode b_AR_copyOf3 17 = .ok (.iload_n 1, 1) := by decide +kernel
theorem d_AR_copyOf3_18 : decode b_AR_copyOf3 18 = .ok (.invokestatic 95, 3) := by decide +kernel
theorem d_AR_copyOf3_21 : decode b_AR_copyOf3 21 = .ok (.checkcast 110, 3) := by decide +kernel
theorem d_AR_copyOf3_24 : decode b_AR_copyOf3 24 = .ok (.astore_n 3, 1) := by decide +kernel
theorem d_AR_copyOf3_25 : decode b_AR_copyOf3 25 = .ok (.aload_n 0, 1) := by decide +kernel
theorem d_AR_copyOf3_26 : decode b_AR_copyOf3 26 = .ok (.iconst 0, 1) := by decide +kernel
theorem d_AR_copyOf3_27 : decode b_AR_copyOf3 27 = .ok (.aload_n 3, 1) := by decide +kernel
theorem d_AR_copyOf3_28 : decode b_AR_copyOf3 28 = .ok (.iconst 0, 1) := by decide +kernel
theorem d_AR_copyOf3_29 : decode b_AR_copyOf3 29 = .ok (.aload_n 0, 1) := by decide +kernel
theorem d_AR_copyOf3_30 : decode b_AR_copyOf3 30 = .ok (.arraylength, 1) := by decide +kernel
theorem d_AR_copyOf3_31 : decode b_AR_copyOf3 31 = .ok (.iload_n 1, 1) := by decide +kernel
theorem d_AR_copyOf3_32 : decode b_AR_copyOf3 32 = .ok (.invokestatic 304, 3) := by decide +kernel
theorem d_AR_copyOf3_35 : decode b_AR_copyOf3 35 = .ok (.invokestatic 150, 3) := by decide +kernel
theorem d_AR_copyOf3_38 : decode b_AR_copyOf3 38 = .ok (.aload_n 3, 1) := by decide +kernel
theorem d_AR_copyOf3_39 : decode b_AR_copyOf3 39 = .ok (.areturn, 1) := by decide +kernel
theorem d_MA_min_0 : decode b_MA_min 0 = .ok (.iload_n 0, 1) := by decide +kernel
theorem d_MA_min_1 : decode b_MA_min 1 = .ok (.iload_n 1, 1) := by decide +kernel
theorem d_MA_min_2 : decode b_MA_min 2 = .ok (.if_icmp .gt 7, 3) := by decide +kernel
theorem d_MA_min_5 : decode b_MA_min 5 = .ok (.iload_n 0, 1) := by decide +kernel
theorem d_MA_min_6 : decode b_MA_min 6 = .ok (.goto 4, 3) := by decide +kernel
theorem d_MA_min_9 : decode b_MA_min 9 = .ok (.iload_n 1, 1) := by decide +kernel
theorem d_MA_min_10 : decode b_MA_min 10 = .ok (.ireturn, 1) := by decide +kernel
theorem d_IS_build_0 : decode b_IS_build 0 = .ok (.aload_n 0, 1) := by decide +kernel
theorem d_IS_build_1 : decode b_IS_build 1 = .ok (.iload_n 1, 1) := by decide +kernel
theorem d_IS_build_2 : decode b_IS_build 2 = .ok (.invokevirtual 53, 3) := by decide +kernel
theorem d_IS_build_5 : decode b_IS_build 5 = .ok (.ifCond .eq 14, 3) := by decide +kernel
theorem d_IS_build_8 : decode b_IS_build 8 = .ok (.aload_n 0, 1) := by decide +kernel
theorem d_IS_build_9 : decode b_IS_build 9 = .ok (.getfield 22, 3) := by decide +kernel
theorem d_IS_build_12 : decode b_IS_build 12 = .ok (.iload_n 1, 1) := by decide +kernel
theorem d_IS_build_13 : decode b_IS_build 13 = .ok (.invokevirtual 57, 3) := by decide +kernel
theorem d_IS_build_16 : decode b_IS_build 16 = .ok (.ifCond .ne 5, 3) := by decide +kernel
theorem d_IS_build_19 : decode b_IS_build 19 = .ok (.iconst (-1), 1) := by decide +kernel
theorem d_IS_build_20 : decode b_IS_build 20 = .ok (.ireturn, 1) := by decide +kernel
theorem d_IS_build_21 : decode b_IS_build 21 = .ok (.aload_n 0, 1) := by decide +kernel
theorem d_IS_build_22 : decode b_IS_build 22 = .ok (.getfield 32, 3) := by decide +kernel
theorem d_IS_build_25 : decode b_IS_build 25 = .ok (.aload_n 0, 1) := by decide +kernel
theorem d_IS_build_26 : decode b_IS_build 26 = .ok (.getfield 10, 3) := by decide +kernel
theorem d_IS_build_29 : decode b_IS_build 29 = .ok (.iload_n 1, 1) := by decide +kernel
theorem d_IS_build_30 : decode b_IS_build 30 = .ok (.invokevirtual 60, 3) := by decide +kernel
theorem d_IS_build_33 : decode b_IS_build 33 = .ok (.checkcast 44, 3) := by decide +kernel
theorem d_IS_build_36 : decode b_IS_build 36 = .ok (.getfield 64, 3) := by decide +kernel
theorem d_IS_build_39 : decode b_IS_build 39 = .ok (.invokevirtual 67, 3) := by decide +kernel
theorem d_IS_build_42 : decode b_IS_build 42 = .ok (.aload_n 0, 1) := by decide +kernel
theorem d_IS_build_43 : decode b_IS_build 43 = .ok (.getfield 32, 3) := by decide +kernel
theorem d_IS_build_46 : decode b_IS_build 46 = .ok (.iload_n 2, 1) := by decide +kernel
theorem d_IS_build_47 : decode b_IS_build 47 = .ok (.iload_n 3, 1) := by decide +kernel
theorem d_IS_build_48 : decode b_IS_build 48 = .ok (.iload 4, 2) := by decide +kernel
theorem d_IS_build_50 : decode b_IS_build 50 = .ok (.invokevirtual 71, 3) := by decide +kernel
theorem d_IS_build_53 : decode b_IS_build 53 = .ok (.ifCond .ne 5, 3) := by decide +kernel
theorem d_IS_build_56 : decode b_IS_build 56 = .ok (.iconst (-1), 1) := by decide +kernel
theorem d_IS_build_57 : decode b_IS_build 57 = .ok (.ireturn, 1) := by decide +kernel
theorem d_IS_build_58 : decode b_IS_build 58 = .ok (.aload_n 0, 1) := by decide +kernel
theorem d_IS_build_59 : decode b_IS_build 59 = .ok (.iload_n 1, 1) := by decide +kernel
theorem d_IS_build_60 : decode b_IS_build 60 = .ok (.invokevirtual 75, 3) := by decide +kernel
theorem d_IS_build_63 : decode b_IS_build 63 = .ok (.ireturn, 1) := by decide +kernel
theorem d_IS_isMade_0 : decode b_IS_isMade 0 = .ok (.iload_n 1, 1) := by decide +kernel
theorem d_IS_isMade_1 : decode b_IS_isMade 1 = .ok (.ifCond .lt 18, 3) := by decide +kernel
theorem d_IS_isMade_4 : decode b_IS_isMade 4 = .ok (.iload_n 1, 1) := by decide +kernel
theorem d_IS_isMade_5 : decode b_IS_isMade 5 = .ok (.aload_n 0, 1) := by decide +kernel
theorem d_IS_isMade_6 : decode b_IS_isMade 6 = .ok (.getfield 10, 3) := by decide +kernel
theorem d_IS_isMade_9 : decode b_IS_isMade 9 = .ok (.invokevirtual 161, 3) := by decide +kernel
theorem d_IS_isMade_12 : decode b_IS_isMade 12 = .ok (.if_icmp .ge 7, 3) := by decide +kernel
theorem d_IS_isMade_15 : decode b_IS_isMade 15 = .ok (.iconst 1, 1) := by decide +kernel
theorem d_IS_isMade_16 : decode b_IS_isMade 16 = .ok (.goto 4, 3) := by decide +kernel
theorem d_IS_isMade_19 : decode b_IS_isMade 19 = .ok (.iconst 0, 1) := by decide +kernel
theorem d_IS_isMade_20 : decode b_IS_isMade 20 = .ok (.ireturn, 1) := by decide +kernel
theorem d_AL_size_0 : decode b_AL_size 0 = .ok (.aload_n 0, 1) := by decide +kernel
theorem d_AL_size_1 : decode b_AL_size 1 = .ok (.getfield 48, 3) := by decide +kernel
theorem d_AL_size_4 : decode b_AL_size 4 = .ok (.ireturn, 1) := by decide +kernel
theorem d_ST_holds_0 : decode b_ST_holds 0 = .ok (.iload_n 1, 1) := by decide +kernel
theorem d_ST_holds_1 : decode b_ST_holds 1 = .ok (.ifCond .lt 22, 3) := by decide +kernel
theorem d_ST_holds_4 : decode b_ST_holds 4 = .ok (.iload_n 1, 1) := by decide +kernel
theorem d_ST_holds_5 : decode b_ST_holds 5 = .ok (.bipush 40, 2) := by decide +kernel
theorem d_ST_holds_7 : decode b_ST_holds 7 = .ok (.if_icmp .ge 16, 3) := by decide +kernel
theorem d_ST_holds_10 : decode b_ST_holds 10 = .ok (.aload_n 0, 1) := by decide +kernel
theorem d_ST_holds_11 : decode b_ST_holds 11 = .ok (.getfield 9, 3) := by decide +kernel
theorem d_ST_holds_14 : decode b_ST_holds 14 = .ok (.iload_n 1, 1) := by decide +kernel
theorem d_ST_holds_15 : decode b_ST_holds 15 = .ok (.baload, 1) := by decide +kernel
theorem d_ST_holds_16 : decode b_ST_holds 16 = .ok (.ifCond .eq 7, 3) := by decide +kernel
theorem d_ST_holds_19 : decode b_ST_holds 19 = .ok (.iconst 1, 1) := by decide +kernel
theorem d_ST_holds_20 : decode b_ST_holds 20 = .ok (.goto 4, 3) := by decide +kernel
theorem d_ST_holds_23 : decode b_ST_holds 23 = .ok (.iconst 0, 1) := by decide +kernel
theorem d_ST_holds_24 : decode b_ST_holds 24 = .ok (.ireturn, 1) := by decide +kernel
theorem d_AL_get_0 : decode b_AL_get 0 = .ok (.iload_n 1, 1) := by decide +kernel
theorem d_AL_get_1 : decode b_AL_get 1 = .ok (.aload_n 0, 1) := by decide +kernel
theorem d_AL_get_2 : decode b_AL_get 2 = .ok (.getfield 48, 3) := by decide +kernel
theorem d_AL_get_5 : decode b_AL_get 5 = .ok (.invokestatic 118, 3) := by decide +kernel
theorem d_AL_get_8 : decode b_AL_get 8 = .ok (.pop, 1) := by decide +kernel
theorem d_AL_get_9 : decode b_AL_get 9 = .ok (.aload_n 0, 1) := by decide +kernel
theorem d_AL_get_10 : decode b_AL_get 10 = .ok (.iload_n 1, 1) := by decide +kernel
theorem d_AL_get_11 : decode b_AL_get 11 = .ok (.invokevirtual 123, 3) := by decide +kernel
theorem d_AL_get_14 : decode b_AL_get 14 = .ok (.areturn, 1) := by decide +kernel
theorem d_OB_checkIndex_0 : decode b_OB_checkIndex 0 = .ok (.iload_n 0, 1) := by decide +kernel
theorem d_OB_checkIndex_1 : decode b_OB_checkIndex 1 = .ok (.iload_n 1, 1) := by decide +kernel
theorem d_OB_checkIndex_2 : decode b_OB_checkIndex 2 = .ok (.aconst_null, 1) := by decide +kernel
theorem d_OB_checkIndex_3 : decode b_OB_checkIndex 3 = .ok (.invokestatic 105, 3) := by decide +kernel
theorem d_OB_checkIndex_6 : decode b_OB_checkIndex 6 = .ok (.ireturn, 1) := by decide +kernel
theorem d_PR_checkIndex_0 : decode b_PR_checkIndex 0 = .ok (.iload_n 0, 1) := by decide +kernel
theorem d_PR_checkIndex_1 : decode b_PR_checkIndex 1 = .ok (.ifCond .lt 8, 3) := by decide +kernel
theorem d_PR_checkIndex_4 : decode b_PR_checkIndex 4 = .ok (.iload_n 0, 1) := by decide +kernel
theorem d_PR_checkIndex_5 : decode b_PR_checkIndex 5 = .ok (.iload_n 1, 1) := by decide +kernel
theorem d_PR_checkIndex_6 : decode b_PR_checkIndex 6 = .ok (.if_icmp .lt 10, 3) := by decide +kernel
theorem d_PR_checkIndex_9 : decode b_PR_checkIndex 9 = .ok (.aload_n 2, 1) := by decide +kernel
theorem d_PR_checkIndex_10 : decode b_PR_checkIndex 10 = .ok (.iload_n 0, 1) := by decide +kernel
theorem d_PR_checkIndex_11 : decode b_PR_checkIndex 11 = .ok (.iload_n 1, 1) := by decide +kernel
theorem d_PR_checkIndex_12 : decode b_PR_checkIndex 12 = .ok (.invokestatic 95, 3) := by decide +kernel
theorem d_PR_checkIndex_15 : decode b_PR_checkIndex 15 = .ok (.athrow, 1) := by decide +kernel
theorem d_PR_checkIndex_16 : decode b_PR_checkIndex 16 = .ok (.iload_n 0, 1) := by decide +kernel
theorem d_PR_checkIndex_17 : decode b_PR_checkIndex 17 = .ok (.ireturn, 1) := by decide +kernel
theorem d_AL_elementData_0 : decode b_AL_elementData 0 = .ok (.aload_n 0, 1) := by decide +kernel
theorem d_AL_elementData_1 : decode b_AL_elementData 1 = .ok (.getfield 9, 3) := by decide +kernel
theorem d_AL_elementData_4 : decode b_AL_elementData 4 = .ok (.iload_n 1, 1) := by decide +kernel
theorem d_AL_elementData_5 : decode b_AL_elementData 5 = .ok (.aaload, 1) := by decide +kernel
theorem d_AL_elementData_6 : decode b_AL_elementData 6 = .ok (.areturn, 1) := by decide +kernel
theorem d_TR_become_0 : decode b_TR_become 0 = .ok (.aload_n 1, 1) := by decide +kernel
theorem d_TR_become_1 : decode b_TR_become 1 = .ok (.getfield 9, 3) := by decide +kernel
theorem d_TR_become_4 : decode b_TR_become 4 = .ok (.iconst 0, 1) := by decide +kernel
theorem d_TR_become_5 : decode b_TR_become 5 = .ok (.aload_n 0, 1) := by decide +kernel
theorem d_TR_become_6 : decode b_TR_become 6 = .ok (.getfield 9, 3) := by decide +kernel
theorem d_TR_become_9 : decode b_TR_become 9 = .ok (.iconst 0, 1) := by decide +kernel
theorem d_TR_become_10 : decode b_TR_become 10 = .ok (.bipush 125, 2) := by decide +kernel
theorem d_TR_become_12 : decode b_TR_become 12 = .ok (.invokestatic 25, 3) := by decide +kernel
theorem d_TR_become_15 : decode b_TR_become 15 = .ok (.return_, 1) := by decide +kernel
theorem d_TR_change_0 : decode b_TR_change 0 = .ok (.iload_n 2, 1) := by decide +kernel
theorem d_TR_change_1 : decode b_TR_change 1 = .ok (.invokestatic 31, 3) := by decide +kernel
theorem d_TR_change_4 : decode b_TR_change 4 = .ok (.ifCond .ne 5, 3) := by decide +kernel
theorem d_TR_change_7 : decode b_TR_change 7 = .ok (.iconst 0, 1) := by decide +kernel
theorem d_TR_change_8 : decode b_TR_change 8 = .ok (.ireturn, 1) := by decide +kernel
theorem d_TR_change_9 : decode b_TR_change 9 = .ok (.iload_n 1, 1) := by decide +kernel
theorem d_TR_change_10 : decode b_TR_change 10 = .ok (.tableswitch 83 0 4 #[34, 41, 47, 53, 60], 34) := by decide +kernel
theorem d_TR_change_44 : decode b_TR_change 44 = .ok (.aload_n 0, 1) := by decide +kernel
theorem d_TR_change_45 : decode b_TR_change 45 = .ok (.iload_n 2, 1) := by decide +kernel
theorem d_TR_change_46 : decode b_TR_change 46 = .ok (.iload_n 3, 1) := by decide +kernel
theorem d_TR_change_47 : decode b_TR_change 47 = .ok (.invokevirtual 37, 3) := by decide +kernel
theorem d_TR_change_50 : decode b_TR_change 50 = .ok (.ireturn, 1) := by decide +kernel
theorem d_TR_change_51 : decode b_TR_change 51 = .ok (.aload_n 0, 1) := by decide +kernel
theorem d_TR_change_52 : decode b_TR_change 52 = .ok (.iload_n 2, 1) := by decide +kernel
theorem d_TR_change_53 : decode b_TR_change 53 = .ok (.invokevirtual 41, 3) := by decide +kernel
theorem d_TR_change_56 : decode b_TR_change 56 = .ok (.ireturn, 1) := by decide +kernel
theorem d_TR_change_57 : decode b_TR_change 57 = .ok (.aload_n 0, 1) := by decide +kernel
theorem d_TR_change_58 : decode b_TR_change 58 = .ok (.iload_n 2, 1) := by decide +kernel
theorem d_TR_change_59 : decode b_TR_change 59 = .ok (.invokevirtual 44, 3) := by decide +kernel
theorem d_TR_change_62 : decode b_TR_change 62 = .ok (.ireturn, 1) := by decide +kernel
theorem d_TR_change_63 : decode b_TR_change 63 = .ok (.aload_n 0, 1) := by decide +kernel
theorem d_TR_change_64 : decode b_TR_change 64 = .ok (.iload_n 2, 1) := by decide +kernel
theorem d_TR_change_65 : decode b_TR_change 65 = .ok (.iload_n 3, 1) := by decide +kernel
theorem d_TR_change_66 : decode b_TR_change 66 = .ok (.invokevirtual 47, 3) := by decide +kernel
theorem d_TR_change_69 : decode b_TR_change 69 = .ok (.ireturn, 1) := by decide +kernel
theorem d_TR_change_70 : decode b_TR_change 70 = .ok (.aload_n 0, 1) := by decide +kernel
theorem d_TR_change_71 : decode b_TR_change 71 = .ok (.iload_n 2, 1) := by decide +kernel
theorem d_TR_change_72 : decode b_TR_change 72 = .ok (.iload_n 3, 1) := by decide +kernel
theorem d_TR_change_73 : decode b_TR_change 73 = .ok (.invokevirtual 47, 3) := by decide +kernel
theorem d_TR_change_76 : decode b_TR_change 76 = .ok (.ifCond .eq 15, 3) := by decide +kernel
theorem d_TR_change_79 : decode b_TR_change 79 = .ok (.aload_n 0, 1) := by decide +kernel
theorem d_TR_change_80 : decode b_TR_change 80 = .ok (.iload_n 2, 1) := by decide +kernel
theorem d_TR_change_81 : decode b_TR_change 81 = .ok (.invokevirtual 44, 3) := by decide +kernel
theorem d_TR_change_84 : decode b_TR_change 84 = .ok (.ifCond .eq 7, 3) := by decide +kernel
theorem d_TR_change_87 : decode b_TR_change 87 = .ok (.iconst 1, 1) := by decide +kernel
theorem d_TR_change_88 : decode b_TR_change 88 = .ok (.goto 4, 3) := by decide +kernel
theorem d_TR_change_91 : decode b_TR_change 91 = .ok (.iconst 0, 1) := by decide +kernel
theorem d_TR_change_92 : decode b_TR_change 92 = .ok (.ireturn, 1) := by decide +kernel
theorem d_TR_change_93 : decode b_TR_change 93 = .ok (.iconst 0, 1) := by decide +kernel
theorem d_TR_change_94 : decode b_TR_change 94 = .ok (.ireturn, 1) := by decide +kernel
theorem d_PA_isLegal_0 : decode b_PA_isLegal 0 = .ok (.iload_n 0, 1) := by decide +kernel
theorem d_PA_isLegal_1 : decode b_PA_isLegal 1 = .ok (.bipush 25, 2) := by decide +kernel

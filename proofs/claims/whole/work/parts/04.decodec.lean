theorem d_IS_answerHeld_0 : decode b_IS_answerHeld 0 = .ok (.aload_n 0, 1) := by decide +kernel
theorem d_IS_answerHeld_1 : decode b_IS_answerHeld 1 = .ok (.getfield 22, 3) := by decide +kernel
theorem d_IS_answerHeld_4 : decode b_IS_answerHeld 4 = .ok (.iload_n 1, 1) := by decide +kernel
theorem d_IS_answerHeld_5 : decode b_IS_answerHeld 5 = .ok (.invokevirtual 57, 3) := by decide +kernel
theorem d_IS_answerHeld_8 : decode b_IS_answerHeld 8 = .ok (.ifCond .eq 13, 3) := by decide +kernel
theorem d_IS_answerHeld_11 : decode b_IS_answerHeld 11 = .ok (.aload_n 0, 1) := by decide +kernel
theorem d_IS_answerHeld_12 : decode b_IS_answerHeld 12 = .ok (.dup, 1) := by decide +kernel
theorem d_IS_answerHeld_13 : decode b_IS_answerHeld 13 = .ok (.getfield 40, 3) := by decide +kernel
theorem d_IS_answerHeld_16 : decode b_IS_answerHeld 16 = .ok (.iconst 1, 1) := by decide +kernel
theorem d_IS_answerHeld_17 : decode b_IS_answerHeld 17 = .ok (.iadd, 1) := by decide +kernel
theorem d_IS_answerHeld_18 : decode b_IS_answerHeld 18 = .ok (.putfield 40, 3) := by decide +kernel
theorem d_IS_answerHeld_21 : decode b_IS_answerHeld 21 = .ok (.aload_n 0, 1) := by decide +kernel
theorem d_IS_answerHeld_22 : decode b_IS_answerHeld 22 = .ok (.getfield 22, 3) := by decide +kernel
theorem d_IS_answerHeld_25 : decode b_IS_answerHeld 25 = .ok (.iload_n 1, 1) := by decide +kernel
theorem d_IS_answerHeld_26 : decode b_IS_answerHeld 26 = .ok (.invokevirtual 104, 3) := by decide +kernel
theorem d_IS_answerHeld_29 : decode b_IS_answerHeld 29 = .ok (.iload_n 1, 1) := by decide +kernel
theorem d_IS_answerHeld_30 : decode b_IS_answerHeld 30 = .ok (.ireturn, 1) := by decide +kernel
theorem d_ST_hold_0 : decode b_ST_hold 0 = .ok (.iload_n 1, 1) := by decide +kernel
theorem d_ST_hold_1 : decode b_ST_hold 1 = .ok (.ifCond .lt 16, 3) := by decide +kernel
theorem d_ST_hold_4 : decode b_ST_hold 4 = .ok (.iload_n 1, 1) := by decide +kernel
theorem d_ST_hold_5 : decode b_ST_hold 5 = .ok (.bipush 40, 2) := by decide +kernel
theorem d_ST_hold_7 : decode b_ST_hold 7 = .ok (.if_icmp .ge 10, 3) := by decide +kernel
theorem d_ST_hold_10 : decode b_ST_hold 10 = .ok (.aload_n 0, 1) := by decide +kernel
theorem d_ST_hold_11 : decode b_ST_hold 11 = .ok (.getfield 9, 3) := by decide +kernel
theorem d_ST_hold_14 : decode b_ST_hold 14 = .ok (.iload_n 1, 1) := by decide +kernel
theorem d_ST_hold_15 : decode b_ST_hold 15 = .ok (.iconst 1, 1) := by decide +kernel
theorem d_ST_hold_16 : decode b_ST_hold 16 = .ok (.bastore, 1) := by decide +kernel
theorem d_ST_hold_17 : decode b_ST_hold 17 = .ok (.return_, 1) := by decide +kernel
theorem d_IS_newImageOn_0 : decode b_IS_newImageOn 0 = .ok (.aload_n 0, 1) := by decide +kernel
theorem d_IS_newImageOn_1 : decode b_IS_newImageOn 1 = .ok (.getfield 10, 3) := by decide +kernel
theorem d_IS_newImageOn_4 : decode b_IS_newImageOn 4 = .ok (.iload_n 1, 1) := by decide +kernel
theorem d_IS_newImageOn_5 : decode b_IS_newImageOn 5 = .ok (.invokevirtual 60, 3) := by decide +kernel
theorem d_IS_newImageOn_8 : decode b_IS_newImageOn 8 = .ok (.checkcast 44, 3) := by decide +kernel
theorem d_IS_newImageOn_11 : decode b_IS_newImageOn 11 = .ok (.astore_n 2, 1) := by decide +kernel
theorem d_IS_newImageOn_12 : decode b_IS_newImageOn 12 = .ok (.new 29, 3) := by decide +kernel
theorem d_IS_newImageOn_15 : decode b_IS_newImageOn 15 = .ok (.dup, 1) := by decide +kernel
theorem d_IS_newImageOn_16 : decode b_IS_newImageOn 16 = .ok (.invokespecial 31, 3) := by decide +kernel
theorem d_IS_newImageOn_19 : decode b_IS_newImageOn 19 = .ok (.astore_n 3, 1) := by decide +kernel
theorem d_IS_newImageOn_20 : decode b_IS_newImageOn 20 = .ok (.aload_n 3, 1) := by decide +kernel
theorem d_IS_newImageOn_21 : decode b_IS_newImageOn 21 = .ok (.aload_n 0, 1) := by decide +kernel
theorem d_IS_newImageOn_22 : decode b_IS_newImageOn 22 = .ok (.getfield 32, 3) := by decide +kernel
theorem d_IS_newImageOn_25 : decode b_IS_newImageOn 25 = .ok (.invokevirtual 67, 3) := by decide +kernel
theorem d_IS_newImageOn_28 : decode b_IS_newImageOn 28 = .ok (.aload_n 2, 1) := by decide +kernel
theorem d_IS_newImageOn_29 : decode b_IS_newImageOn 29 = .ok (.getfield 125, 3) := by decide +kernel
theorem d_IS_newImageOn_32 : decode b_IS_newImageOn 32 = .ok (.arraylength, 1) := by decide +kernel
theorem d_IS_newImageOn_33 : decode b_IS_newImageOn 33 = .ok (.istore 4, 2) := by decide +kernel
theorem d_IS_newImageOn_35 : decode b_IS_newImageOn 35 = .ok (.aload_n 2, 1) := by decide +kernel
theorem d_IS_newImageOn_36 : decode b_IS_newImageOn 36 = .ok (.getfield 125, 3) := by decide +kernel
theorem d_IS_newImageOn_39 : decode b_IS_newImageOn 39 = .ok (.iload 4, 2) := by decide +kernel
theorem d_IS_newImageOn_41 : decode b_IS_newImageOn 41 = .ok (.iconst 1, 1) := by decide +kernel
theorem d_IS_newImageOn_42 : decode b_IS_newImageOn 42 = .ok (.iadd, 1) := by decide +kernel
theorem d_IS_newImageOn_43 : decode b_IS_newImageOn 43 = .ok (.invokestatic 179, 3) := by decide +kernel
theorem d_IS_newImageOn_46 : decode b_IS_newImageOn 46 = .ok (.astore 5, 2) := by decide +kernel
theorem d_IS_newImageOn_48 : decode b_IS_newImageOn 48 = .ok (.aload 5, 2) := by decide +kernel
theorem d_IS_newImageOn_50 : decode b_IS_newImageOn 50 = .ok (.iload 4, 2) := by decide +kernel
theorem d_IS_newImageOn_52 : decode b_IS_newImageOn 52 = .ok (.aload_n 0, 1) := by decide +kernel
theorem d_IS_newImageOn_53 : decode b_IS_newImageOn 53 = .ok (.new 137, 3) := by decide +kernel
theorem d_IS_newImageOn_56 : decode b_IS_newImageOn 56 = .ok (.dup, 1) := by decide +kernel
theorem d_IS_newImageOn_57 : decode b_IS_newImageOn 57 = .ok (.aload_n 2, 1) := by decide +kernel
theorem d_IS_newImageOn_58 : decode b_IS_newImageOn 58 = .ok (.getfield 64, 3) := by decide +kernel
theorem d_IS_newImageOn_61 : decode b_IS_newImageOn 61 = .ok (.aload_n 3, 1) := by decide +kernel
theorem d_IS_newImageOn_62 : decode b_IS_newImageOn 62 = .ok (.invokespecial 185, 3) := by decide +kernel
theorem d_IS_newImageOn_65 : decode b_IS_newImageOn 65 = .ok (.invokevirtual 188, 3) := by decide +kernel
theorem d_IS_newImageOn_68 : decode b_IS_newImageOn 68 = .ok (.iastore, 1) := by decide +kernel
theorem d_IS_newImageOn_69 : decode b_IS_newImageOn 69 = .ok (.new 44, 3) := by decide +kernel
theorem d_IS_newImageOn_72 : decode b_IS_newImageOn 72 = .ok (.dup, 1) := by decide +kernel
theorem d_IS_newImageOn_73 : decode b_IS_newImageOn 73 = .ok (.iload_n 1, 1) := by decide +kernel
theorem d_IS_newImageOn_74 : decode b_IS_newImageOn 74 = .ok (.aload_n 3, 1) := by decide +kernel
theorem d_IS_newImageOn_75 : decode b_IS_newImageOn 75 = .ok (.aload 5, 2) := by decide +kernel
theorem d_IS_newImageOn_77 : decode b_IS_newImageOn 77 = .ok (.invokespecial 46, 3) := by decide +kernel
theorem d_IS_newImageOn_80 : decode b_IS_newImageOn 80 = .ok (.areturn, 1) := by decide +kernel
theorem d_AR_copyOfI_0 : decode b_AR_copyOfI 0 = .ok (.iload_n 1, 1) := by decide +kernel
theorem d_AR_copyOfI_1 : decode b_AR_copyOfI 1 = .ok (.aload_n 0, 1) := by decide +kernel
theorem d_AR_copyOfI_2 : decode b_AR_copyOfI 2 = .ok (.arraylength, 1) := by decide +kernel
theorem d_AR_copyOfI_3 : decode b_AR_copyOfI 3 = .ok (.if_icmp .ne 11, 3) := by decide +kernel
theorem d_AR_copyOfI_6 : decode b_AR_copyOfI 6 = .ok (.aload_n 0, 1) := by decide +kernel
theorem d_AR_copyOfI_7 : decode b_AR_copyOfI 7 = .ok (.invokevirtual 316, 3) := by decide +kernel
theorem d_AR_copyOfI_10 : decode b_AR_copyOfI 10 = .ok (.checkcast 317, 3) := by decide +kernel
theorem d_AR_copyOfI_13 : decode b_AR_copyOfI 13 = .ok (.areturn, 1) := by decide +kernel
theorem d_AR_copyOfI_14 : decode b_AR_copyOfI 14 = .ok (.iload_n 1, 1) := by decide +kernel
theorem d_AR_copyOfI_15 : decode b_AR_copyOfI 15 = .ok (.newarray .int, 2) := by decide +kernel
theorem d_AR_copyOfI_17 : decode b_AR_copyOfI 17 = .ok (.astore_n 2, 1) := by decide +kernel
theorem d_AR_copyOfI_18 : decode b_AR_copyOfI 18 = .ok (.aload_n 0, 1) := by decide +kernel
theorem d_AR_copyOfI_19 : decode b_AR_copyOfI 19 = .ok (.iconst 0, 1) := by decide +kernel
theorem d_AR_copyOfI_20 : decode b_AR_copyOfI 20 = .ok (.aload_n 2, 1) := by decide +kernel
theorem d_AR_copyOfI_21 : decode b_AR_copyOfI 21 = .ok (.iconst 0, 1) := by decide +kernel
theorem d_AR_copyOfI_22 : decode b_AR_copyOfI 22 = .ok (.aload_n 0, 1) := by decide +kernel
theorem d_AR_copyOfI_23 : decode b_AR_copyOfI 23 = .ok (.arraylength, 1) := by decide +kernel
theorem d_AR_copyOfI_24 : decode b_AR_copyOfI 24 = .ok (.iload_n 1, 1) := by decide +kernel
theorem d_AR_copyOfI_25 : decode b_AR_copyOfI 25 = .ok (.invokestatic 304, 3) := by decide +kernel
theorem d_AR_copyOfI_28 : decode b_AR_copyOfI 28 = .ok (.invokestatic 150, 3) := by decide +kernel
theorem d_AR_copyOfI_31 : decode b_AR_copyOfI 31 = .ok (.aload_n 2, 1) := by decide +kernel
theorem d_AR_copyOfI_32 : decode b_AR_copyOfI 32 = .ok (.areturn, 1) := by decide +kernel
theorem d_LY_init_0 : decode b_LY_init 0 = .ok (.aload_n 0, 1) := by decide +kernel
theorem d_LY_init_1 : decode b_LY_init 1 = .ok (.invokespecial 3, 3) := by decide +kernel
theorem d_LY_init_4 : decode b_LY_init 4 = .ok (.iconst 0, 1) := by decide +kernel
theorem d_LY_init_5 : decode b_LY_init 5 = .ok (.istore_n 3, 1) := by decide +kernel
theorem d_LY_init_6 : decode b_LY_init 6 = .ok (.iconst 1, 1) := by decide +kernel
theorem d_LY_init_7 : decode b_LY_init 7 = .ok (.istore 4, 2) := by decide +kernel
theorem d_LY_init_9 : decode b_LY_init 9 = .ok (.iload 4, 2) := by decide +kernel
theorem d_LY_init_11 : decode b_LY_init 11 = .ok (.bipush 125, 2) := by decide +kernel
theorem d_LY_init_13 : decode b_LY_init 13 = .ok (.if_icmp .ge 26, 3) := by decide +kernel
theorem d_LY_init_16 : decode b_LY_init 16 = .ok (.iload 4, 2) := by decide +kernel
theorem d_LY_init_18 : decode b_LY_init 18 = .ok (.aload_n 1, 1) := by decide +kernel
theorem d_LY_init_19 : decode b_LY_init 19 = .ok (.aload_n 2, 1) := by decide +kernel
theorem d_LY_init_20 : decode b_LY_init 20 = .ok (.invokestatic 9, 3) := by decide +kernel
theorem d_LY_init_23 : decode b_LY_init 23 = .ok (.ldc2_w 15, 3) := by decide +kernel
theorem d_LY_init_26 : decode b_LY_init 26 = .ok (.lcmp, 1) := by decide +kernel
theorem d_LY_init_27 : decode b_LY_init 27 = .ok (.ifCond .eq 6, 3) := by decide +kernel
theorem d_LY_init_30 : decode b_LY_init 30 = .ok (.iinc 3 1, 3) := by decide +kernel
theorem d_LY_init_33 : decode b_LY_init 33 = .ok (.iinc 4 1, 3) := by decide +kernel
theorem d_LY_init_36 : decode b_LY_init 36 = .ok (.goto (-27), 3) := by decide +kernel
theorem d_LY_init_39 : decode b_LY_init 39 = .ok (.aload_n 0, 1) := by decide +kernel
theorem d_LY_init_40 : decode b_LY_init 40 = .ok (.iload_n 3, 1) := by decide +kernel
theorem d_LY_init_41 : decode b_LY_init 41 = .ok (.newarray .int, 2) := by decide +kernel
theorem d_LY_init_43 : decode b_LY_init 43 = .ok (.putfield 17, 3) := by decide +kernel
theorem d_LY_init_46 : decode b_LY_init 46 = .ok (.aload_n 0, 1) := by decide +kernel
theorem d_LY_init_47 : decode b_LY_init 47 = .ok (.iload_n 3, 1) := by decide +kernel
theorem d_LY_init_48 : decode b_LY_init 48 = .ok (.newarray .long, 2) := by decide +kernel
theorem d_LY_init_50 : decode b_LY_init 50 = .ok (.putfield 21, 3) := by decide +kernel
theorem d_LY_init_53 : decode b_LY_init 53 = .ok (.iconst 0, 1) := by decide +kernel
theorem d_LY_init_54 : decode b_LY_init 54 = .ok (.istore 4, 2) := by decide +kernel
theorem d_LY_init_56 : decode b_LY_init 56 = .ok (.iconst 1, 1) := by decide +kernel
theorem d_LY_init_57 : decode b_LY_init 57 = .ok (.istore 5, 2) := by decide +kernel
theorem d_LY_init_59 : decode b_LY_init 59 = .ok (.iload 5, 2) := by decide +kernel
theorem d_LY_init_61 : decode b_LY_init 61 = .ok (.bipush 125, 2) := by decide +kernel
theorem d_LY_init_63 : decode b_LY_init 63 = .ok (.if_icmp .ge 54, 3) := by decide +kernel
theorem d_LY_init_66 : decode b_LY_init 66 = .ok (.iload 4, 2) := by decide +kernel
theorem d_LY_init_68 : decode b_LY_init 68 = .ok (.iload_n 3, 1) := by decide +kernel
theorem d_LY_init_69 : decode b_LY_init 69 = .ok (.if_icmp .ge 48, 3) := by decide +kernel
theorem d_LY_init_72 : decode b_LY_init 72 = .ok (.iload 5, 2) := by decide +kernel
theorem d_LY_init_74 : decode b_LY_init 74 = .ok (.aload_n 1, 1) := by decide +kernel
theorem d_LY_init_75 : decode b_LY_init 75 = .ok (.aload_n 2, 1) := by decide +kernel
theorem d_LY_init_76 : decode b_LY_init 76 = .ok (.invokestatic 9, 3) := by decide +kernel
theorem d_LY_init_79 : decode b_LY_init 79 = .ok (.lstore 6, 2) := by decide +kernel
theorem d_LY_init_81 : decode b_LY_init 81 = .ok (.lload 6, 2) := by decide +kernel
theorem d_LY_init_83 : decode b_LY_init 83 = .ok (.ldc2_w 15, 3) := by decide +kernel
theorem d_LY_init_86 : decode b_LY_init 86 = .ok (.lcmp, 1) := by decide +kernel
theorem d_LY_init_87 : decode b_LY_init 87 = .ok (.ifCond .eq 24, 3) := by decide +kernel
theorem d_LY_init_90 : decode b_LY_init 90 = .ok (.aload_n 0, 1) := by decide +kernel
theorem d_LY_init_91 : decode b_LY_init 91 = .ok (.getfield 17, 3) := by decide +kernel
theorem d_LY_init_94 : decode b_LY_init 94 = .ok (.iload 4, 2) := by decide +kernel
theorem d_LY_init_96 : decode b_LY_init 96 = .ok (.iload 5, 2) := by decide +kernel
theorem d_LY_init_98 : decode b_LY_init 98 = .ok (.iastore, 1) := by decide +kernel
theorem d_LY_init_99 : decode b_LY_init 99 = .ok (.aload_n 0, 1) := by decide +kernel
theorem d_LY_init_100 : decode b_LY_init 100 = .ok (.getfield 21, 3) := by decide +kernel
theorem d_LY_init_103 : decode b_LY_init 103 = .ok (.iload 4, 2) := by decide +kernel
theorem d_LY_init_105 : decode b_LY_init 105 = .ok (.lload 6, 2) := by decide +kernel
theorem d_LY_init_107 : decode b_LY_init 107 = .ok (.lastore, 1) := by decide +kernel
theorem d_LY_init_108 : decode b_LY_init 108 = .ok (.iinc 4 1, 3) := by decide +kernel
theorem d_LY_init_111 : decode b_LY_init 111 = .ok (.iinc 5 1, 3) := by decide +kernel
theorem d_LY_init_114 : decode b_LY_init 114 = .ok (.goto (-55), 3) := by decide +kernel
theorem d_LY_init_117 : decode b_LY_init 117 = .ok (.return_, 1) := by decide +kernel
theorem d_LY_changeAt_0 : decode b_LY_changeAt 0 = .ok (.aload_n 2, 1) := by decide +kernel
theorem d_LY_changeAt_1 : decode b_LY_changeAt 1 = .ok (.iload_n 0, 1) := by decide +kernel
theorem d_LY_changeAt_2 : decode b_LY_changeAt 2 = .ok (.invokevirtual 25, 3) := by decide +kernel
theorem d_LY_changeAt_5 : decode b_LY_changeAt 5 = .ok (.lstore_n 3, 1) := by decide +kernel
theorem d_LY_changeAt_6 : decode b_LY_changeAt 6 = .ok (.lload_n 3, 1) := by decide +kernel
theorem d_LY_changeAt_7 : decode b_LY_changeAt 7 = .ok (.aload_n 1, 1) := by decide +kernel
theorem d_LY_changeAt_8 : decode b_LY_changeAt 8 = .ok (.iload_n 0, 1) := by decide +kernel
theorem d_LY_changeAt_9 : decode b_LY_changeAt 9 = .ok (.invokevirtual 25, 3) := by decide +kernel
theorem d_LY_changeAt_12 : decode b_LY_changeAt 12 = .ok (.lcmp, 1) := by decide +kernel
theorem d_LY_changeAt_13 : decode b_LY_changeAt 13 = .ok (.ifCond .ne 7, 3) := by decide +kernel
theorem d_LY_changeAt_16 : decode b_LY_changeAt 16 = .ok (.ldc2_w 15, 3) := by decide +kernel
theorem d_LY_changeAt_19 : decode b_LY_changeAt 19 = .ok (.lreturn, 1) := by decide +kernel
theorem d_LY_changeAt_20 : decode b_LY_changeAt 20 = .ok (.lload_n 3, 1) := by decide +kernel
theorem d_LY_changeAt_21 : decode b_LY_changeAt 21 = .ok (.ldc2_w 31, 3) := by decide +kernel
theorem d_LY_changeAt_24 : decode b_LY_changeAt 24 = .ok (.lcmp, 1) := by decide +kernel
theorem d_LY_changeAt_25 : decode b_LY_changeAt 25 = .ok (.ifCond .eq 5, 3) := by decide +kernel
theorem d_LY_changeAt_28 : decode b_LY_changeAt 28 = .ok (.lload_n 3, 1) := by decide +kernel
theorem d_LY_changeAt_29 : decode b_LY_changeAt 29 = .ok (.lreturn, 1) := by decide +kernel
theorem d_LY_changeAt_30 : decode b_LY_changeAt 30 = .ok (.aload_n 2, 1) := by decide +kernel
theorem d_LY_changeAt_31 : decode b_LY_changeAt 31 = .ok (.iload_n 0, 1) := by decide +kernel
theorem d_LY_changeAt_32 : decode b_LY_changeAt 32 = .ok (.invokestatic 33, 3) := by decide +kernel
theorem d_LY_changeAt_35 : decode b_LY_changeAt 35 = .ok (.invokevirtual 25, 3) := by decide +kernel
theorem d_LY_changeAt_38 : decode b_LY_changeAt 38 = .ok (.ldc2_w 39, 3) := by decide +kernel
theorem d_LY_changeAt_41 : decode b_LY_changeAt 41 = .ok (.lcmp, 1) := by decide +kernel
theorem d_LY_changeAt_42 : decode b_LY_changeAt 42 = .ok (.ifCond .ne 9, 3) := by decide +kernel
theorem d_LY_changeAt_45 : decode b_LY_changeAt 45 = .ok (.ldc2_w 41, 3) := by decide +kernel
theorem d_LY_changeAt_48 : decode b_LY_changeAt 48 = .ok (.goto 6, 3) := by decide +kernel
theorem d_LY_changeAt_51 : decode b_LY_changeAt 51 = .ok (.ldc2_w 15, 3) := by decide +kernel
theorem d_LY_changeAt_54 : decode b_LY_changeAt 54 = .ok (.lreturn, 1) := by decide +kernel
theorem d_TR_at_0 : decode b_TR_at 0 = .ok (.aload_n 0, 1) := by decide +kernel
theorem d_TR_at_1 : decode b_TR_at 1 = .ok (.getfield 9, 3) := by decide +kernel
theorem d_TR_at_4 : decode b_TR_at 4 = .ok (.iload_n 1, 1) := by decide +kernel
theorem d_TR_at_5 : decode b_TR_at 5 = .ok (.laload, 1) := by decide +kernel
theorem d_TR_at_6 : decode b_TR_at 6 = .ok (.lreturn, 1) := by decide +kernel
theorem d_IS_numberOfLayer_0 : decode b_IS_numberOfLayer 0 = .ok (.iconst 0, 1) := by decide +kernel
theorem d_IS_numberOfLayer_1 : decode b_IS_numberOfLayer 1 = .ok (.istore_n 2, 1) := by decide +kernel
theorem d_IS_numberOfLayer_2 : decode b_IS_numberOfLayer 2 = .ok (.iload_n 2, 1) := by decide +kernel
theorem d_IS_numberOfLayer_3 : decode b_IS_numberOfLayer 3 = .ok (.aload_n 0, 1) := by decide +kernel
theorem d_IS_numberOfLayer_4 : decode b_IS_numberOfLayer 4 = .ok (.getfield 16, 3) := by decide +kernel
theorem d_IS_numberOfLayer_7 : decode b_IS_numberOfLayer 7 = .ok (.invokevirtual 161, 3) := by decide +kernel
theorem d_IS_numberOfLayer_10 : decode b_IS_numberOfLayer 10 = .ok (.if_icmp .ge 29, 3) := by decide +kernel
theorem d_IS_numberOfLayer_13 : decode b_IS_numberOfLayer 13 = .ok (.aload_n 0, 1) := by decide +kernel
theorem d_IS_numberOfLayer_14 : decode b_IS_numberOfLayer 14 = .ok (.getfield 16, 3) := by decide +kernel
theorem d_IS_numberOfLayer_17 : decode b_IS_numberOfLayer 17 = .ok (.iload_n 2, 1) := by decide +kernel
theorem d_IS_numberOfLayer_18 : decode b_IS_numberOfLayer 18 = .ok (.invokevirtual 60, 3) := by decide +kernel
theorem d_IS_numberOfLayer_21 : decode b_IS_numberOfLayer 21 = .ok (.checkcast 137, 3) := by decide +kernel
theorem d_IS_numberOfLayer_24 : decode b_IS_numberOfLayer 24 = .ok (.aload_n 1, 1) := by decide +kernel
theorem d_IS_numberOfLayer_25 : decode b_IS_numberOfLayer 25 = .ok (.invokevirtual 192, 3) := by decide +kernel
theorem d_IS_numberOfLayer_28 : decode b_IS_numberOfLayer 28 = .ok (.ifCond .eq 5, 3) := by decide +kernel
theorem d_IS_numberOfLayer_31 : decode b_IS_numberOfLayer 31 = .ok (.iload_n 2, 1) := by decide +kernel
theorem d_IS_numberOfLayer_32 : decode b_IS_numberOfLayer 32 = .ok (.ireturn, 1) := by decide +kernel
theorem d_IS_numberOfLayer_33 : decode b_IS_numberOfLayer 33 = .ok (.iinc 2 1, 3) := by decide +kernel
theorem d_IS_numberOfLayer_36 : decode b_IS_numberOfLayer 36 = .ok (.goto (-34), 3) := by decide +kernel
theorem d_IS_numberOfLayer_39 : decode b_IS_numberOfLayer 39 = .ok (.aload_n 0, 1) := by decide +kernel
theorem d_IS_numberOfLayer_40 : decode b_IS_numberOfLayer 40 = .ok (.getfield 16, 3) := by decide +kernel
theorem d_IS_numberOfLayer_43 : decode b_IS_numberOfLayer 43 = .ok (.aload_n 1, 1) := by decide +kernel
theorem d_IS_numberOfLayer_44 : decode b_IS_numberOfLayer 44 = .ok (.invokevirtual 49, 3) := by decide +kernel
theorem d_IS_numberOfLayer_47 : decode b_IS_numberOfLayer 47 = .ok (.pop, 1) := by decide +kernel
theorem d_IS_numberOfLayer_48 : decode b_IS_numberOfLayer 48 = .ok (.aload_n 0, 1) := by decide +kernel
theorem d_IS_numberOfLayer_49 : decode b_IS_numberOfLayer 49 = .ok (.getfield 16, 3) := by decide +kernel
theorem d_IS_numberOfLayer_52 : decode b_IS_numberOfLayer 52 = .ok (.invokevirtual 161, 3) := by decide +kernel
theorem d_IS_numberOfLayer_55 : decode b_IS_numberOfLayer 55 = .ok (.iconst 1, 1) := by decide +kernel
theorem d_IS_numberOfLayer_56 : decode b_IS_numberOfLayer 56 = .ok (.isub, 1) := by decide +kernel
theorem d_IS_numberOfLayer_57 : decode b_IS_numberOfLayer 57 = .ok (.ireturn, 1) := by decide +kernel
theorem d_LY_sameAs_0 : decode b_LY_sameAs 0 = .ok (.aload_n 0, 1) := by decide +kernel
theorem d_LY_sameAs_1 : decode b_LY_sameAs 1 = .ok (.getfield 17, 3) := by decide +kernel
theorem d_LY_sameAs_4 : decode b_LY_sameAs 4 = .ok (.arraylength, 1) := by decide +kernel
theorem d_LY_sameAs_5 : decode b_LY_sameAs 5 = .ok (.aload_n 1, 1) := by decide +kernel
theorem d_LY_sameAs_6 : decode b_LY_sameAs 6 = .ok (.getfield 17, 3) := by decide +kernel
theorem d_LY_sameAs_9 : decode b_LY_sameAs 9 = .ok (.arraylength, 1) := by decide +kernel
theorem d_LY_sameAs_10 : decode b_LY_sameAs 10 = .ok (.if_icmp .eq 5, 3) := by decide +kernel
theorem d_LY_sameAs_13 : decode b_LY_sameAs 13 = .ok (.iconst 0, 1) := by decide +kernel
theorem d_LY_sameAs_14 : decode b_LY_sameAs 14 = .ok (.ireturn, 1) := by decide +kernel
theorem d_LY_sameAs_15 : decode b_LY_sameAs 15 = .ok (.iconst 0, 1) := by decide +kernel
theorem d_LY_sameAs_16 : decode b_LY_sameAs 16 = .ok (.istore_n 2, 1) := by decide +kernel
theorem d_LY_sameAs_17 : decode b_LY_sameAs 17 = .ok (.iload_n 2, 1) := by decide +kernel
theorem d_LY_sameAs_18 : decode b_LY_sameAs 18 = .ok (.aload_n 0, 1) := by decide +kernel
theorem d_LY_sameAs_19 : decode b_LY_sameAs 19 = .ok (.getfield 17, 3) := by decide +kernel
theorem d_LY_sameAs_22 : decode b_LY_sameAs 22 = .ok (.arraylength, 1) := by decide +kernel
theorem d_LY_sameAs_23 : decode b_LY_sameAs 23 = .ok (.if_icmp .ge 42, 3) := by decide +kernel
theorem d_LY_sameAs_26 : decode b_LY_sameAs 26 = .ok (.aload_n 0, 1) := by decide +kernel
theorem d_LY_sameAs_27 : decode b_LY_sameAs 27 = .ok (.getfield 17, 3) := by decide +kernel
theorem d_LY_sameAs_30 : decode b_LY_sameAs 30 = .ok (.iload_n 2, 1) := by decide +kernel
theorem d_LY_sameAs_31 : decode b_LY_sameAs 31 = .ok (.iaload, 1) := by decide +kernel
theorem d_LY_sameAs_32 : decode b_LY_sameAs 32 = .ok (.aload_n 1, 1) := by decide +kernel
theorem d_LY_sameAs_33 : decode b_LY_sameAs 33 = .ok (.getfield 17, 3) := by decide +kernel
theorem d_LY_sameAs_36 : decode b_LY_sameAs 36 = .ok (.iload_n 2, 1) := by decide +kernel
theorem d_LY_sameAs_37 : decode b_LY_sameAs 37 = .ok (.iaload, 1) := by decide +kernel
theorem d_LY_sameAs_38 : decode b_LY_sameAs 38 = .ok (.if_icmp .ne 19, 3) := by decide +kernel
theorem d_LY_sameAs_41 : decode b_LY_sameAs 41 = .ok (.aload_n 0, 1) := by decide +kernel
theorem d_LY_sameAs_42 : decode b_LY_sameAs 42 = .ok (.getfield 21, 3) := by decide +kernel
theorem d_LY_sameAs_45 : decode b_LY_sameAs 45 = .ok (.iload_n 2, 1) := by decide +kernel
theorem d_LY_sameAs_46 : decode b_LY_sameAs 46 = .ok (.laload, 1) := by decide +kernel
theorem d_LY_sameAs_47 : decode b_LY_sameAs 47 = .ok (.aload_n 1, 1) := by decide +kernel
theorem d_LY_sameAs_48 : decode b_LY_sameAs 48 = .ok (.getfield 21, 3) := by decide +kernel
theorem d_LY_sameAs_51 : decode b_LY_sameAs 51 = .ok (.iload_n 2, 1) := by decide +kernel
theorem d_LY_sameAs_52 : decode b_LY_sameAs 52 = .ok (.laload, 1) := by decide +kernel
theorem d_LY_sameAs_53 : decode b_LY_sameAs 53 = .ok (.lcmp, 1) := by decide +kernel
theorem d_LY_sameAs_54 : decode b_LY_sameAs 54 = .ok (.ifCond .eq 5, 3) := by decide +kernel
theorem d_LY_sameAs_57 : decode b_LY_sameAs 57 = .ok (.iconst 0, 1) := by decide +kernel
theorem d_LY_sameAs_58 : decode b_LY_sameAs 58 = .ok (.ireturn, 1) := by decide +kernel
theorem d_LY_sameAs_59 : decode b_LY_sameAs 59 = .ok (.iinc 2 1, 3) := by decide +kernel
theorem d_LY_sameAs_62 : decode b_LY_sameAs 62 = .ok (.goto (-45), 3) := by decide +kernel
theorem d_LY_sameAs_65 : decode b_LY_sameAs 65 = .ok (.iconst 1, 1) := by decide +kernel
theorem d_LY_sameAs_66 : decode b_LY_sameAs 66 = .ok (.ireturn, 1) := by decide +kernel
theorem d_IS_flatten_0 : decode b_IS_flatten 0 = .ok (.aload_n 0, 1) := by decide +kernel
theorem d_IS_flatten_1 : decode b_IS_flatten 1 = .ok (.iload_n 1, 1) := by decide +kernel
theorem d_IS_flatten_2 : decode b_IS_flatten 2 = .ok (.invokevirtual 53, 3) := by decide +kernel
theorem d_IS_flatten_5 : decode b_IS_flatten 5 = .ok (.ifCond .eq 14, 3) := by decide +kernel
theorem d_IS_flatten_8 : decode b_IS_flatten 8 = .ok (.aload_n 0, 1) := by decide +kernel
theorem d_IS_flatten_9 : decode b_IS_flatten 9 = .ok (.getfield 22, 3) := by decide +kernel
theorem d_IS_flatten_12 : decode b_IS_flatten 12 = .ok (.iload_n 1, 1) := by decide +kernel
theorem d_IS_flatten_13 : decode b_IS_flatten 13 = .ok (.invokevirtual 57, 3) := by decide +kernel
theorem d_IS_flatten_16 : decode b_IS_flatten 16 = .ok (.ifCond .ne 5, 3) := by decide +kernel
theorem d_IS_flatten_19 : decode b_IS_flatten 19 = .ok (.iconst (-1), 1) := by decide +kernel
theorem d_IS_flatten_20 : decode b_IS_flatten 20 = .ok (.ireturn, 1) := by decide +kernel
theorem d_IS_flatten_21 : decode b_IS_flatten 21 = .ok (.aload_n 0, 1) := by decide +kernel
theorem d_IS_flatten_22 : decode b_IS_flatten 22 = .ok (.getfield 32, 3) := by decide +kernel
theorem d_IS_flatten_25 : decode b_IS_flatten 25 = .ok (.aload_n 0, 1) := by decide +kernel
theorem d_IS_flatten_26 : decode b_IS_flatten 26 = .ok (.getfield 10, 3) := by decide +kernel
theorem d_IS_flatten_29 : decode b_IS_flatten 29 = .ok (.iload_n 1, 1) := by decide +kernel
theorem d_IS_flatten_30 : decode b_IS_flatten 30 = .ok (.invokevirtual 60, 3) := by decide +kernel
theorem d_IS_flatten_33 : decode b_IS_flatten 33 = .ok (.checkcast 44, 3) := by decide +kernel
theorem d_IS_flatten_36 : decode b_IS_flatten 36 = .ok (.getfield 64, 3) := by decide +kernel
theorem d_IS_flatten_39 : decode b_IS_flatten 39 = .ok (.invokevirtual 67, 3) := by decide +kernel
theorem d_IS_flatten_42 : decode b_IS_flatten 42 = .ok (.aload_n 0, 1) := by decide +kernel
theorem d_IS_flatten_43 : decode b_IS_flatten 43 = .ok (.iconst 0, 1) := by decide +kernel
theorem d_IS_flatten_44 : decode b_IS_flatten 44 = .ok (.invokevirtual 75, 3) := by decide +kernel
theorem d_IS_flatten_47 : decode b_IS_flatten 47 = .ok (.ireturn, 1) := by decide +kernel
theorem d_IS_tag_0 : decode b_IS_tag 0 = .ok (.iload_n 1, 1) := by decide +kernel
theorem d_IS_tag_1 : decode b_IS_tag 1 = .ok (.invokestatic 79, 3) := by decide +kernel
theorem d_IS_tag_4 : decode b_IS_tag 4 = .ok (.ifCond .eq 22, 3) := by decide +kernel
theorem d_IS_tag_7 : decode b_IS_tag 7 = .ok (.iload_n 2, 1) := by decide +kernel
theorem d_IS_tag_8 : decode b_IS_tag 8 = .ok (.invokestatic 82, 3) := by decide +kernel
theorem d_IS_tag_11 : decode b_IS_tag 11 = .ok (.ifCond .eq 15, 3) := by decide +kernel
theorem d_IS_tag_14 : decode b_IS_tag 14 = .ok (.aload_n 0, 1) := by decide +kernel
theorem d_IS_tag_15 : decode b_IS_tag 15 = .ok (.iload_n 1, 1) := by decide +kernel
theorem d_IS_tag_16 : decode b_IS_tag 16 = .ok (.invokevirtual 85, 3) := by decide +kernel
theorem d_IS_tag_19 : decode b_IS_tag 19 = .ok (.iload_n 3, 1) := by decide +kernel
theorem d_IS_tag_20 : decode b_IS_tag 20 = .ok (.invokevirtual 57, 3) := by decide +kernel
theorem d_IS_tag_23 : decode b_IS_tag 23 = .ok (.ifCond .ne 5, 3) := by decide +kernel
theorem d_IS_tag_26 : decode b_IS_tag 26 = .ok (.iconst (-1), 1) := by decide +kernel
theorem d_IS_tag_27 : decode b_IS_tag 27 = .ok (.ireturn, 1) := by decide +kernel
theorem d_IS_tag_28 : decode b_IS_tag 28 = .ok (.aload_n 0, 1) := by decide +kernel
theorem d_IS_tag_29 : decode b_IS_tag 29 = .ok (.iload_n 1, 1) := by decide +kernel
theorem d_IS_tag_30 : decode b_IS_tag 30 = .ok (.invokevirtual 85, 3) := by decide +kernel
theorem d_IS_tag_33 : decode b_IS_tag 33 = .ok (.iload_n 2, 1) := by decide +kernel
theorem d_IS_tag_34 : decode b_IS_tag 34 = .ok (.invokevirtual 89, 3) := by decide +kernel
theorem d_IS_tag_37 : decode b_IS_tag 37 = .ok (.istore 4, 2) := by decide +kernel
theorem d_IS_tag_39 : decode b_IS_tag 39 = .ok (.aload_n 0, 1) := by decide +kernel
theorem d_IS_tag_40 : decode b_IS_tag 40 = .ok (.iload_n 1, 1) := by decide +kernel
theorem d_IS_tag_41 : decode b_IS_tag 41 = .ok (.invokevirtual 85, 3) := by decide +kernel
theorem d_IS_tag_44 : decode b_IS_tag 44 = .ok (.iload_n 2, 1) := by decide +kernel
theorem d_IS_tag_45 : decode b_IS_tag 45 = .ok (.iload_n 3, 1) := by decide +kernel
theorem d_IS_tag_46 : decode b_IS_tag 46 = .ok (.invokevirtual 92, 3) := by decide +kernel
theorem d_IS_tag_49 : decode b_IS_tag 49 = .ok (.iload 4, 2) := by decide +kernel
theorem d_IS_tag_51 : decode b_IS_tag 51 = .ok (.ireturn, 1) := by decide +kernel
theorem d_IS_isStore_0 : decode b_IS_isStore 0 = .ok (.iload_n 0, 1) := by decide +kernel
theorem d_IS_isStore_1 : decode b_IS_isStore 1 = .ok (.ifCond .eq 8, 3) := by decide +kernel
theorem d_IS_isStore_4 : decode b_IS_isStore 4 = .ok (.iload_n 0, 1) := by decide +kernel
theorem d_IS_isStore_5 : decode b_IS_isStore 5 = .ok (.iconst 1, 1) := by decide +kernel
theorem d_IS_isStore_6 : decode b_IS_isStore 6 = .ok (.if_icmp .ne 7, 3) := by decide +kernel
theorem d_IS_isStore_9 : decode b_IS_isStore 9 = .ok (.iconst 1, 1) := by decide +kernel
theorem d_IS_isStore_10 : decode b_IS_isStore 10 = .ok (.goto 4, 3) := by decide +kernel
theorem d_IS_isStore_13 : decode b_IS_isStore 13 = .ok (.iconst 0, 1) := by decide +kernel
theorem d_IS_isStore_14 : decode b_IS_isStore 14 = .ok (.ireturn, 1) := by decide +kernel
theorem d_IS_isTag_0 : decode b_IS_isTag 0 = .ok (.iload_n 0, 1) := by decide +kernel
theorem d_IS_isTag_1 : decode b_IS_isTag 1 = .ok (.ifCond .lt 13, 3) := by decide +kernel
theorem d_IS_isTag_4 : decode b_IS_isTag 4 = .ok (.iload_n 0, 1) := by decide +kernel
theorem d_IS_isTag_5 : decode b_IS_isTag 5 = .ok (.bipush 6, 2) := by decide +kernel
theorem d_IS_isTag_7 : decode b_IS_isTag 7 = .ok (.if_icmp .ge 7, 3) := by decide +kernel
theorem d_IS_isTag_10 : decode b_IS_isTag 10 = .ok (.iconst 1, 1) := by decide +kernel
theorem d_IS_isTag_11 : decode b_IS_isTag 11 = .ok (.goto 4, 3) := by decide +kernel
theorem d_IS_isTag_14 : decode b_IS_isTag 14 = .ok (.iconst 0, 1) := by decide +kernel
theorem d_IS_isTag_15 : decode b_IS_isTag 15 = .ok (.ireturn, 1) := by decide +kernel
theorem d_IS_storeOf_0 : decode b_IS_storeOf 0 = .ok (.iload_n 1, 1) := by decide +kernel
theorem d_IS_storeOf_1 : decode b_IS_storeOf 1 = .ok (.ifCond .ne 10, 3) := by decide +kernel
theorem d_IS_storeOf_4 : decode b_IS_storeOf 4 = .ok (.aload_n 0, 1) := by decide +kernel
theorem d_IS_storeOf_5 : decode b_IS_storeOf 5 = .ok (.getfield 22, 3) := by decide +kernel
theorem d_IS_storeOf_8 : decode b_IS_storeOf 8 = .ok (.goto 7, 3) := by decide +kernel
theorem d_IS_storeOf_11 : decode b_IS_storeOf 11 = .ok (.aload_n 0, 1) := by decide +kernel
theorem d_IS_storeOf_12 : decode b_IS_storeOf 12 = .ok (.getfield 26, 3) := by decide +kernel
theorem d_IS_storeOf_15 : decode b_IS_storeOf 15 = .ok (.areturn, 1) := by decide +kernel
theorem d_ST_nameOf_0 : decode b_ST_nameOf 0 = .ok (.aload_n 0, 1) := by decide +kernel
theorem d_ST_nameOf_1 : decode b_ST_nameOf 1 = .ok (.getfield 15, 3) := by decide +kernel
theorem d_ST_nameOf_4 : decode b_ST_nameOf 4 = .ok (.iload_n 1, 1) := by decide +kernel
theorem d_ST_nameOf_5 : decode b_ST_nameOf 5 = .ok (.iaload, 1) := by decide +kernel
theorem d_ST_nameOf_6 : decode b_ST_nameOf 6 = .ok (.ireturn, 1) := by decide +kernel
theorem d_ST_giveName_0 : decode b_ST_giveName 0 = .ok (.aload_n 0, 1) := by decide +kernel
theorem d_ST_giveName_1 : decode b_ST_giveName 1 = .ok (.getfield 15, 3) := by decide +kernel
theorem d_ST_giveName_4 : decode b_ST_giveName 4 = .ok (.iload_n 1, 1) := by decide +kernel
theorem d_ST_giveName_5 : decode b_ST_giveName 5 = .ok (.iload_n 2, 1) := by decide +kernel
theorem d_ST_giveName_6 : decode b_ST_giveName 6 = .ok (.iastore, 1) := by decide +kernel
theorem d_ST_giveName_7 : decode b_ST_giveName 7 = .ok (.return_, 1) := by decide +kernel
theorem d_IS_untag_0 : decode b_IS_untag 0 = .ok (.aload_n 0, 1) := by decide +kernel
theorem d_IS_untag_1 : decode b_IS_untag 1 = .ok (.iload_n 1, 1) := by decide +kernel
theorem d_IS_untag_2 : decode b_IS_untag 2 = .ok (.iload_n 2, 1) := by decide +kernel
theorem d_IS_untag_3 : decode b_IS_untag 3 = .ok (.invokevirtual 96, 3) := by decide +kernel
theorem d_IS_untag_6 : decode b_IS_untag 6 = .ok (.ifCond .ne 5, 3) := by decide +kernel
theorem d_IS_untag_9 : decode b_IS_untag 9 = .ok (.iconst (-1), 1) := by decide +kernel
theorem d_IS_untag_10 : decode b_IS_untag 10 = .ok (.ireturn, 1) := by decide +kernel
theorem d_IS_untag_11 : decode b_IS_untag 11 = .ok (.aload_n 0, 1) := by decide +kernel
theorem d_IS_untag_12 : decode b_IS_untag 12 = .ok (.iload_n 1, 1) := by decide +kernel
theorem d_IS_untag_13 : decode b_IS_untag 13 = .ok (.invokevirtual 85, 3) := by decide +kernel
theorem d_IS_untag_16 : decode b_IS_untag 16 = .ok (.iload_n 2, 1) := by decide +kernel
theorem d_IS_untag_17 : decode b_IS_untag 17 = .ok (.invokevirtual 89, 3) := by decide +kernel
theorem d_IS_untag_20 : decode b_IS_untag 20 = .ok (.istore_n 3, 1) := by decide +kernel
theorem d_IS_untag_21 : decode b_IS_untag 21 = .ok (.aload_n 0, 1) := by decide +kernel
theorem d_IS_untag_22 : decode b_IS_untag 22 = .ok (.iload_n 1, 1) := by decide +kernel
theorem d_IS_untag_23 : decode b_IS_untag 23 = .ok (.invokevirtual 85, 3) := by decide +kernel
theorem d_IS_untag_26 : decode b_IS_untag 26 = .ok (.iload_n 2, 1) := by decide +kernel
theorem d_IS_untag_27 : decode b_IS_untag 27 = .ok (.bipush 40, 2) := by decide +kernel
theorem d_IS_untag_29 : decode b_IS_untag 29 = .ok (.invokevirtual 92, 3) := by decide +kernel
theorem d_IS_untag_32 : decode b_IS_untag 32 = .ok (.iload_n 3, 1) := by decide +kernel
theorem d_IS_untag_33 : decode b_IS_untag 33 = .ok (.ireturn, 1) := by decide +kernel
theorem d_IS_namesImage_0 : decode b_IS_namesImage 0 = .ok (.iload_n 1, 1) := by decide +kernel
theorem d_IS_namesImage_1 : decode b_IS_namesImage 1 = .ok (.invokestatic 79, 3) := by decide +kernel
theorem d_IS_namesImage_4 : decode b_IS_namesImage 4 = .ok (.ifCond .eq 28, 3) := by decide +kernel
theorem d_IS_namesImage_7 : decode b_IS_namesImage 7 = .ok (.iload_n 2, 1) := by decide +kernel
theorem d_IS_namesImage_8 : decode b_IS_namesImage 8 = .ok (.invokestatic 82, 3) := by decide +kernel
theorem d_IS_namesImage_11 : decode b_IS_namesImage 11 = .ok (.ifCond .eq 21, 3) := by decide +kernel
theorem d_IS_namesImage_14 : decode b_IS_namesImage 14 = .ok (.aload_n 0, 1) := by decide +kernel
theorem d_IS_namesImage_15 : decode b_IS_namesImage 15 = .ok (.iload_n 1, 1) := by decide +kernel
theorem d_IS_namesImage_16 : decode b_IS_namesImage 16 = .ok (.invokevirtual 85, 3) := by decide +kernel
theorem d_IS_namesImage_19 : decode b_IS_namesImage 19 = .ok (.iload_n 2, 1) := by decide +kernel
theorem d_IS_namesImage_20 : decode b_IS_namesImage 20 = .ok (.invokevirtual 89, 3) := by decide +kernel
theorem d_IS_namesImage_23 : decode b_IS_namesImage 23 = .ok (.bipush 40, 2) := by decide +kernel
theorem d_IS_namesImage_25 : decode b_IS_namesImage 25 = .ok (.if_icmp .eq 7, 3) := by decide +kernel
theorem d_IS_namesImage_28 : decode b_IS_namesImage 28 = .ok (.iconst 1, 1) := by decide +kernel
theorem d_IS_namesImage_29 : decode b_IS_namesImage 29 = .ok (.goto 4, 3) := by decide +kernel
theorem d_IS_namesImage_32 : decode b_IS_namesImage 32 = .ok (.iconst 0, 1) := by decide +kernel
theorem d_IS_namesImage_33 : decode b_IS_namesImage 33 = .ok (.ireturn, 1) := by decide +kernel
theorem d_IS_send_0 : decode b_IS_send 0 = .ok (.aload_n 0, 1) := by decide +kernel
theorem d_IS_send_1 : decode b_IS_send 1 = .ok (.iload_n 1, 1) := by decide +kernel
theorem d_IS_send_2 : decode b_IS_send 2 = .ok (.iload_n 2, 1) := by decide +kernel
theorem d_IS_send_3 : decode b_IS_send 3 = .ok (.invokevirtual 96, 3) := by decide +kernel
theorem d_IS_send_6 : decode b_IS_send 6 = .ok (.ifCond .ne 5, 3) := by decide +kernel
theorem d_IS_send_9 : decode b_IS_send 9 = .ok (.iconst (-1), 1) := by decide +kernel
theorem d_IS_send_10 : decode b_IS_send 10 = .ok (.ireturn, 1) := by decide +kernel
theorem d_IS_send_11 : decode b_IS_send 11 = .ok (.aload_n 0, 1) := by decide +kernel
theorem d_IS_send_12 : decode b_IS_send 12 = .ok (.iload_n 1, 1) := by decide +kernel
theorem d_IS_send_13 : decode b_IS_send 13 = .ok (.invokevirtual 85, 3) := by decide +kernel
theorem d_IS_send_16 : decode b_IS_send 16 = .ok (.iload_n 2, 1) := by decide +kernel
theorem d_IS_send_17 : decode b_IS_send 17 = .ok (.invokevirtual 89, 3) := by decide +kernel
theorem d_IS_send_20 : decode b_IS_send 20 = .ok (.istore_n 3, 1) := by decide +kernel
theorem d_IS_send_21 : decode b_IS_send 21 = .ok (.aload_n 0, 1) := by decide +kernel
theorem d_IS_send_22 : decode b_IS_send 22 = .ok (.iconst 1, 1) := by decide +kernel
theorem d_IS_send_23 : decode b_IS_send 23 = .ok (.iload_n 1, 1) := by decide +kernel
theorem d_IS_send_24 : decode b_IS_send 24 = .ok (.isub, 1) := by decide +kernel
theorem d_IS_send_25 : decode b_IS_send 25 = .ok (.invokevirtual 85, 3) := by decide +kernel
theorem d_IS_send_28 : decode b_IS_send 28 = .ok (.astore 4, 2) := by decide +kernel
theorem d_IS_send_30 : decode b_IS_send 30 = .ok (.aload_n 0, 1) := by decide +kernel
theorem d_IS_send_31 : decode b_IS_send 31 = .ok (.aload 4, 2) := by decide +kernel
theorem d_IS_send_33 : decode b_IS_send 33 = .ok (.invokevirtual 100, 3) := by decide +kernel
theorem d_IS_send_36 : decode b_IS_send 36 = .ok (.istore 5, 2) := by decide +kernel
theorem d_IS_send_38 : decode b_IS_send 38 = .ok (.aload 4, 2) := by decide +kernel
theorem d_IS_send_40 : decode b_IS_send 40 = .ok (.iload_n 3, 1) := by decide +kernel
theorem d_IS_send_41 : decode b_IS_send 41 = .ok (.invokevirtual 104, 3) := by decide +kernel
theorem d_IS_send_44 : decode b_IS_send 44 = .ok (.aload 4, 2) := by decide +kernel
theorem d_IS_send_46 : decode b_IS_send 46 = .ok (.iload_n 2, 1) := by decide +kernel
theorem d_IS_send_47 : decode b_IS_send 47 = .ok (.iload_n 3, 1) := by decide +kernel
theorem d_IS_send_48 : decode b_IS_send 48 = .ok (.invokevirtual 92, 3) := by decide +kernel
theorem d_IS_send_51 : decode b_IS_send 51 = .ok (.aload_n 0, 1) := by decide +kernel
theorem d_IS_send_52 : decode b_IS_send 52 = .ok (.aload 4, 2) := by decide +kernel
theorem d_IS_send_54 : decode b_IS_send 54 = .ok (.invokevirtual 100, 3) := by decide +kernel
theorem d_IS_send_57 : decode b_IS_send 57 = .ok (.iload 5, 2) := by decide +kernel
theorem d_IS_send_59 : decode b_IS_send 59 = .ok (.isub, 1) := by decide +kernel
theorem d_IS_send_60 : decode b_IS_send 60 = .ok (.ireturn, 1) := by decide +kernel
theorem d_IS_layersIn_0 : decode b_IS_layersIn 0 = .ok (.aload_n 0, 1) := by decide +kernel
theorem d_IS_layersIn_1 : decode b_IS_layersIn 1 = .ok (.aload_n 1, 1) := by decide +kernel
theorem d_IS_layersIn_2 : decode b_IS_layersIn 2 = .ok (.invokevirtual 195, 3) := by decide +kernel
theorem d_IS_layersIn_5 : decode b_IS_layersIn 5 = .ok (.iconst 0, 1) := by decide +kernel
theorem d_IS_layersIn_6 : decode b_IS_layersIn 6 = .ok (.istore_n 2, 1) := by decide +kernel
theorem d_IS_layersIn_7 : decode b_IS_layersIn 7 = .ok (.iconst 0, 1) := by decide +kernel
theorem d_IS_layersIn_8 : decode b_IS_layersIn 8 = .ok (.istore_n 3, 1) := by decide +kernel
theorem d_IS_layersIn_9 : decode b_IS_layersIn 9 = .ok (.iload_n 3, 1) := by decide +kernel
theorem d_IS_layersIn_10 : decode b_IS_layersIn 10 = .ok (.aload_n 0, 1) := by decide +kernel
theorem d_IS_layersIn_11 : decode b_IS_layersIn 11 = .ok (.getfield 16, 3) := by decide +kernel
theorem d_IS_layersIn_14 : decode b_IS_layersIn 14 = .ok (.invokevirtual 161, 3) := by decide +kernel
theorem d_IS_layersIn_17 : decode b_IS_layersIn 17 = .ok (.if_icmp .ge 21, 3) := by decide +kernel
theorem d_IS_layersIn_20 : decode b_IS_layersIn 20 = .ok (.aload_n 0, 1) := by decide +kernel
theorem d_IS_layersIn_21 : decode b_IS_layersIn 21 = .ok (.getfield 36, 3) := by decide +kernel
theorem d_IS_layersIn_24 : decode b_IS_layersIn 24 = .ok (.iload_n 3, 1) := by decide +kernel
theorem d_IS_layersIn_25 : decode b_IS_layersIn 25 = .ok (.baload, 1) := by decide +kernel
theorem d_IS_layersIn_26 : decode b_IS_layersIn 26 = .ok (.ifCond .eq 6, 3) := by decide +kernel
theorem d_IS_layersIn_29 : decode b_IS_layersIn 29 = .ok (.iinc 2 1, 3) := by decide +kernel
theorem d_IS_layersIn_32 : decode b_IS_layersIn 32 = .ok (.iinc 3 1, 3) := by decide +kernel
theorem d_IS_layersIn_35 : decode b_IS_layersIn 35 = .ok (.goto (-26), 3) := by decide +kernel
theorem d_IS_layersIn_38 : decode b_IS_layersIn 38 = .ok (.iload_n 2, 1) := by decide +kernel
theorem d_IS_layersIn_39 : decode b_IS_layersIn 39 = .ok (.ireturn, 1) := by decide +kernel
theorem d_IS_seeLayersOf_0 : decode b_IS_seeLayersOf 0 = .ok (.iconst 0, 1) := by decide +kernel
theorem d_IS_seeLayersOf_1 : decode b_IS_seeLayersOf 1 = .ok (.istore_n 2, 1) := by decide +kernel
theorem d_IS_seeLayersOf_2 : decode b_IS_seeLayersOf 2 = .ok (.iload_n 2, 1) := by decide +kernel
theorem d_IS_seeLayersOf_3 : decode b_IS_seeLayersOf 3 = .ok (.aload_n 0, 1) := by decide +kernel
theorem d_IS_seeLayersOf_4 : decode b_IS_seeLayersOf 4 = .ok (.getfield 36, 3) := by decide +kernel
theorem d_IS_seeLayersOf_7 : decode b_IS_seeLayersOf 7 = .ok (.arraylength, 1) := by decide +kernel
theorem d_IS_seeLayersOf_8 : decode b_IS_seeLayersOf 8 = .ok (.if_icmp .ge 16, 3) := by decide +kernel

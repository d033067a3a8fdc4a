theorem d_IS_seeLayersOf_11 : decode b_IS_seeLayersOf 11 = .ok (.aload_n 0, 1) := by decide +kernel
theorem d_IS_seeLayersOf_12 : decode b_IS_seeLayersOf 12 = .ok (.getfield 36, 3) := by decide +kernel
theorem d_IS_seeLayersOf_15 : decode b_IS_seeLayersOf 15 = .ok (.iload_n 2, 1) := by decide +kernel
theorem d_IS_seeLayersOf_16 : decode b_IS_seeLayersOf 16 = .ok (.iconst 0, 1) := by decide +kernel
theorem d_IS_seeLayersOf_17 : decode b_IS_seeLayersOf 17 = .ok (.bastore, 1) := by decide +kernel
theorem d_IS_seeLayersOf_18 : decode b_IS_seeLayersOf 18 = .ok (.iinc 2 1, 3) := by decide +kernel
theorem d_IS_seeLayersOf_21 : decode b_IS_seeLayersOf 21 = .ok (.goto (-19), 3) := by decide +kernel
theorem d_IS_seeLayersOf_24 : decode b_IS_seeLayersOf 24 = .ok (.iconst 0, 1) := by decide +kernel
theorem d_IS_seeLayersOf_25 : decode b_IS_seeLayersOf 25 = .ok (.istore_n 2, 1) := by decide +kernel
theorem d_IS_seeLayersOf_26 : decode b_IS_seeLayersOf 26 = .ok (.iload_n 2, 1) := by decide +kernel
theorem d_IS_seeLayersOf_27 : decode b_IS_seeLayersOf 27 = .ok (.aload_n 0, 1) := by decide +kernel
theorem d_IS_seeLayersOf_28 : decode b_IS_seeLayersOf 28 = .ok (.getfield 10, 3) := by decide +kernel
theorem d_IS_seeLayersOf_31 : decode b_IS_seeLayersOf 31 = .ok (.invokevirtual 161, 3) := by decide +kernel
theorem d_IS_seeLayersOf_34 : decode b_IS_seeLayersOf 34 = .ok (.if_icmp .ge 66, 3) := by decide +kernel
theorem d_IS_seeLayersOf_37 : decode b_IS_seeLayersOf 37 = .ok (.aload_n 1, 1) := by decide +kernel
theorem d_IS_seeLayersOf_38 : decode b_IS_seeLayersOf 38 = .ok (.iload_n 2, 1) := by decide +kernel
theorem d_IS_seeLayersOf_39 : decode b_IS_seeLayersOf 39 = .ok (.invokevirtual 57, 3) := by decide +kernel
theorem d_IS_seeLayersOf_42 : decode b_IS_seeLayersOf 42 = .ok (.ifCond .eq 52, 3) := by decide +kernel
theorem d_IS_seeLayersOf_45 : decode b_IS_seeLayersOf 45 = .ok (.aload_n 0, 1) := by decide +kernel
theorem d_IS_seeLayersOf_46 : decode b_IS_seeLayersOf 46 = .ok (.getfield 10, 3) := by decide +kernel
theorem d_IS_seeLayersOf_49 : decode b_IS_seeLayersOf 49 = .ok (.iload_n 2, 1) := by decide +kernel
theorem d_IS_seeLayersOf_50 : decode b_IS_seeLayersOf 50 = .ok (.invokevirtual 60, 3) := by decide +kernel
theorem d_IS_seeLayersOf_53 : decode b_IS_seeLayersOf 53 = .ok (.checkcast 44, 3) := by decide +kernel
theorem d_IS_seeLayersOf_56 : decode b_IS_seeLayersOf 56 = .ok (.getfield 125, 3) := by decide +kernel
theorem d_IS_seeLayersOf_59 : decode b_IS_seeLayersOf 59 = .ok (.astore_n 3, 1) := by decide +kernel
theorem d_IS_seeLayersOf_60 : decode b_IS_seeLayersOf 60 = .ok (.aload_n 3, 1) := by decide +kernel
theorem d_IS_seeLayersOf_61 : decode b_IS_seeLayersOf 61 = .ok (.arraylength, 1) := by decide +kernel
theorem d_IS_seeLayersOf_62 : decode b_IS_seeLayersOf 62 = .ok (.istore 4, 2) := by decide +kernel
theorem d_IS_seeLayersOf_64 : decode b_IS_seeLayersOf 64 = .ok (.iconst 0, 1) := by decide +kernel
theorem d_IS_seeLayersOf_65 : decode b_IS_seeLayersOf 65 = .ok (.istore 5, 2) := by decide +kernel
theorem d_IS_seeLayersOf_67 : decode b_IS_seeLayersOf 67 = .ok (.iload 5, 2) := by decide +kernel
theorem d_IS_seeLayersOf_69 : decode b_IS_seeLayersOf 69 = .ok (.iload 4, 2) := by decide +kernel
theorem d_IS_seeLayersOf_71 : decode b_IS_seeLayersOf 71 = .ok (.if_icmp .ge 23, 3) := by decide +kernel
theorem d_IS_seeLayersOf_74 : decode b_IS_seeLayersOf 74 = .ok (.aload_n 3, 1) := by decide +kernel
theorem d_IS_seeLayersOf_75 : decode b_IS_seeLayersOf 75 = .ok (.iload 5, 2) := by decide +kernel
theorem d_IS_seeLayersOf_77 : decode b_IS_seeLayersOf 77 = .ok (.iaload, 1) := by decide +kernel
theorem d_IS_seeLayersOf_78 : decode b_IS_seeLayersOf 78 = .ok (.istore 6, 2) := by decide +kernel
theorem d_IS_seeLayersOf_80 : decode b_IS_seeLayersOf 80 = .ok (.aload_n 0, 1) := by decide +kernel
theorem d_IS_seeLayersOf_81 : decode b_IS_seeLayersOf 81 = .ok (.getfield 36, 3) := by decide +kernel
theorem d_IS_seeLayersOf_84 : decode b_IS_seeLayersOf 84 = .ok (.iload 6, 2) := by decide +kernel
theorem d_IS_seeLayersOf_86 : decode b_IS_seeLayersOf 86 = .ok (.iconst 1, 1) := by decide +kernel
theorem d_IS_seeLayersOf_87 : decode b_IS_seeLayersOf 87 = .ok (.bastore, 1) := by decide +kernel
theorem d_IS_seeLayersOf_88 : decode b_IS_seeLayersOf 88 = .ok (.iinc 5 1, 3) := by decide +kernel
theorem d_IS_seeLayersOf_91 : decode b_IS_seeLayersOf 91 = .ok (.goto (-24), 3) := by decide +kernel
theorem d_IS_seeLayersOf_94 : decode b_IS_seeLayersOf 94 = .ok (.iinc 2 1, 3) := by decide +kernel
theorem d_IS_seeLayersOf_97 : decode b_IS_seeLayersOf 97 = .ok (.goto (-71), 3) := by decide +kernel
theorem d_IS_seeLayersOf_100 : decode b_IS_seeLayersOf 100 = .ok (.return_, 1) := by decide +kernel
theorem d_IS_collect_0 : decode b_IS_collect 0 = .ok (.iload_n 1, 1) := by decide +kernel
theorem d_IS_collect_1 : decode b_IS_collect 1 = .ok (.invokestatic 79, 3) := by decide +kernel
theorem d_IS_collect_4 : decode b_IS_collect 4 = .ok (.ifCond .ne 5, 3) := by decide +kernel
theorem d_IS_collect_7 : decode b_IS_collect 7 = .ok (.iconst (-1), 1) := by decide +kernel
theorem d_IS_collect_8 : decode b_IS_collect 8 = .ok (.ireturn, 1) := by decide +kernel
theorem d_IS_collect_9 : decode b_IS_collect 9 = .ok (.aload_n 0, 1) := by decide +kernel
theorem d_IS_collect_10 : decode b_IS_collect 10 = .ok (.aload_n 0, 1) := by decide +kernel
theorem d_IS_collect_11 : decode b_IS_collect 11 = .ok (.iload_n 1, 1) := by decide +kernel
theorem d_IS_collect_12 : decode b_IS_collect 12 = .ok (.invokevirtual 85, 3) := by decide +kernel
theorem d_IS_collect_15 : decode b_IS_collect 15 = .ok (.invokevirtual 100, 3) := by decide +kernel
theorem d_IS_collect_18 : decode b_IS_collect 18 = .ok (.istore_n 2, 1) := by decide +kernel
theorem d_IS_collect_19 : decode b_IS_collect 19 = .ok (.aload_n 0, 1) := by decide +kernel
theorem d_IS_collect_20 : decode b_IS_collect 20 = .ok (.iload_n 1, 1) := by decide +kernel
theorem d_IS_collect_21 : decode b_IS_collect 21 = .ok (.invokevirtual 85, 3) := by decide +kernel
theorem d_IS_collect_24 : decode b_IS_collect 24 = .ok (.invokevirtual 108, 3) := by decide +kernel
theorem d_IS_collect_27 : decode b_IS_collect 27 = .ok (.iload_n 2, 1) := by decide +kernel
theorem d_IS_collect_28 : decode b_IS_collect 28 = .ok (.aload_n 0, 1) := by decide +kernel
theorem d_IS_collect_29 : decode b_IS_collect 29 = .ok (.aload_n 0, 1) := by decide +kernel
theorem d_IS_collect_30 : decode b_IS_collect 30 = .ok (.iload_n 1, 1) := by decide +kernel
theorem d_IS_collect_31 : decode b_IS_collect 31 = .ok (.invokevirtual 85, 3) := by decide +kernel
theorem d_IS_collect_34 : decode b_IS_collect 34 = .ok (.invokevirtual 100, 3) := by decide +kernel
theorem d_IS_collect_37 : decode b_IS_collect 37 = .ok (.isub, 1) := by decide +kernel
theorem d_IS_collect_38 : decode b_IS_collect 38 = .ok (.ireturn, 1) := by decide +kernel
theorem d_ST_holdOnlyNamed_0 : decode b_ST_holdOnlyNamed 0 = .ok (.iconst 0, 1) := by decide +kernel
theorem d_ST_holdOnlyNamed_1 : decode b_ST_holdOnlyNamed 1 = .ok (.istore_n 1, 1) := by decide +kernel
theorem d_ST_holdOnlyNamed_2 : decode b_ST_holdOnlyNamed 2 = .ok (.iload_n 1, 1) := by decide +kernel
theorem d_ST_holdOnlyNamed_3 : decode b_ST_holdOnlyNamed 3 = .ok (.bipush 40, 2) := by decide +kernel
theorem d_ST_holdOnlyNamed_5 : decode b_ST_holdOnlyNamed 5 = .ok (.if_icmp .ge 16, 3) := by decide +kernel
theorem d_ST_holdOnlyNamed_8 : decode b_ST_holdOnlyNamed 8 = .ok (.aload_n 0, 1) := by decide +kernel
theorem d_ST_holdOnlyNamed_9 : decode b_ST_holdOnlyNamed 9 = .ok (.getfield 9, 3) := by decide +kernel
theorem d_ST_holdOnlyNamed_12 : decode b_ST_holdOnlyNamed 12 = .ok (.iload_n 1, 1) := by decide +kernel
theorem d_ST_holdOnlyNamed_13 : decode b_ST_holdOnlyNamed 13 = .ok (.iconst 0, 1) := by decide +kernel
theorem d_ST_holdOnlyNamed_14 : decode b_ST_holdOnlyNamed 14 = .ok (.bastore, 1) := by decide +kernel
theorem d_ST_holdOnlyNamed_15 : decode b_ST_holdOnlyNamed 15 = .ok (.iinc 1 1, 3) := by decide +kernel
theorem d_ST_holdOnlyNamed_18 : decode b_ST_holdOnlyNamed 18 = .ok (.goto (-16), 3) := by decide +kernel
theorem d_ST_holdOnlyNamed_21 : decode b_ST_holdOnlyNamed 21 = .ok (.aload_n 0, 1) := by decide +kernel
theorem d_ST_holdOnlyNamed_22 : decode b_ST_holdOnlyNamed 22 = .ok (.getfield 9, 3) := by decide +kernel
theorem d_ST_holdOnlyNamed_25 : decode b_ST_holdOnlyNamed 25 = .ok (.iconst 0, 1) := by decide +kernel
theorem d_ST_holdOnlyNamed_26 : decode b_ST_holdOnlyNamed 26 = .ok (.iconst 1, 1) := by decide +kernel
theorem d_ST_holdOnlyNamed_27 : decode b_ST_holdOnlyNamed 27 = .ok (.bastore, 1) := by decide +kernel
theorem d_ST_holdOnlyNamed_28 : decode b_ST_holdOnlyNamed 28 = .ok (.aload_n 0, 1) := by decide +kernel
theorem d_ST_holdOnlyNamed_29 : decode b_ST_holdOnlyNamed 29 = .ok (.getfield 15, 3) := by decide +kernel
theorem d_ST_holdOnlyNamed_32 : decode b_ST_holdOnlyNamed 32 = .ok (.astore_n 1, 1) := by decide +kernel
theorem d_ST_holdOnlyNamed_33 : decode b_ST_holdOnlyNamed 33 = .ok (.aload_n 1, 1) := by decide +kernel
theorem d_ST_holdOnlyNamed_34 : decode b_ST_holdOnlyNamed 34 = .ok (.arraylength, 1) := by decide +kernel
theorem d_ST_holdOnlyNamed_35 : decode b_ST_holdOnlyNamed 35 = .ok (.istore_n 2, 1) := by decide +kernel
theorem d_ST_holdOnlyNamed_36 : decode b_ST_holdOnlyNamed 36 = .ok (.iconst 0, 1) := by decide +kernel
theorem d_ST_holdOnlyNamed_37 : decode b_ST_holdOnlyNamed 37 = .ok (.istore_n 3, 1) := by decide +kernel
theorem d_ST_holdOnlyNamed_38 : decode b_ST_holdOnlyNamed 38 = .ok (.iload_n 3, 1) := by decide +kernel
theorem d_ST_holdOnlyNamed_39 : decode b_ST_holdOnlyNamed 39 = .ok (.iload_n 2, 1) := by decide +kernel
theorem d_ST_holdOnlyNamed_40 : decode b_ST_holdOnlyNamed 40 = .ok (.if_icmp .ge 20, 3) := by decide +kernel
theorem d_ST_holdOnlyNamed_43 : decode b_ST_holdOnlyNamed 43 = .ok (.aload_n 1, 1) := by decide +kernel
theorem d_ST_holdOnlyNamed_44 : decode b_ST_holdOnlyNamed 44 = .ok (.iload_n 3, 1) := by decide +kernel
theorem d_ST_holdOnlyNamed_45 : decode b_ST_holdOnlyNamed 45 = .ok (.iaload, 1) := by decide +kernel
theorem d_ST_holdOnlyNamed_46 : decode b_ST_holdOnlyNamed 46 = .ok (.istore 4, 2) := by decide +kernel
theorem d_ST_holdOnlyNamed_48 : decode b_ST_holdOnlyNamed 48 = .ok (.aload_n 0, 1) := by decide +kernel
theorem d_ST_holdOnlyNamed_49 : decode b_ST_holdOnlyNamed 49 = .ok (.iload 4, 2) := by decide +kernel
theorem d_ST_holdOnlyNamed_51 : decode b_ST_holdOnlyNamed 51 = .ok (.invokevirtual 25, 3) := by decide +kernel
theorem d_ST_holdOnlyNamed_54 : decode b_ST_holdOnlyNamed 54 = .ok (.iinc 3 1, 3) := by decide +kernel
theorem d_ST_holdOnlyNamed_57 : decode b_ST_holdOnlyNamed 57 = .ok (.goto (-19), 3) := by decide +kernel
theorem d_ST_holdOnlyNamed_60 : decode b_ST_holdOnlyNamed 60 = .ok (.return_, 1) := by decide +kernel
theorem d_IS_named_0 : decode b_IS_named 0 = .ok (.iload_n 1, 1) := by decide +kernel
theorem d_IS_named_1 : decode b_IS_named 1 = .ok (.invokestatic 79, 3) := by decide +kernel
theorem d_IS_named_4 : decode b_IS_named 4 = .ok (.ifCond .eq 10, 3) := by decide +kernel
theorem d_IS_named_7 : decode b_IS_named 7 = .ok (.iload_n 2, 1) := by decide +kernel
theorem d_IS_named_8 : decode b_IS_named 8 = .ok (.invokestatic 82, 3) := by decide +kernel
theorem d_IS_named_11 : decode b_IS_named 11 = .ok (.ifCond .ne 5, 3) := by decide +kernel
theorem d_IS_named_14 : decode b_IS_named 14 = .ok (.iconst (-1), 1) := by decide +kernel
theorem d_IS_named_15 : decode b_IS_named 15 = .ok (.ireturn, 1) := by decide +kernel
theorem d_IS_named_16 : decode b_IS_named 16 = .ok (.aload_n 0, 1) := by decide +kernel
theorem d_IS_named_17 : decode b_IS_named 17 = .ok (.iload_n 1, 1) := by decide +kernel
theorem d_IS_named_18 : decode b_IS_named 18 = .ok (.invokevirtual 85, 3) := by decide +kernel
theorem d_IS_named_21 : decode b_IS_named 21 = .ok (.iload_n 2, 1) := by decide +kernel
theorem d_IS_named_22 : decode b_IS_named 22 = .ok (.invokevirtual 89, 3) := by decide +kernel
theorem d_IS_named_25 : decode b_IS_named 25 = .ok (.ireturn, 1) := by decide +kernel
theorem d_IS_held_0 : decode b_IS_held 0 = .ok (.iload_n 1, 1) := by decide +kernel
theorem d_IS_held_1 : decode b_IS_held 1 = .ok (.invokestatic 79, 3) := by decide +kernel
theorem d_IS_held_4 : decode b_IS_held 4 = .ok (.ifCond .eq 19, 3) := by decide +kernel
theorem d_IS_held_7 : decode b_IS_held 7 = .ok (.aload_n 0, 1) := by decide +kernel
theorem d_IS_held_8 : decode b_IS_held 8 = .ok (.iload_n 1, 1) := by decide +kernel
theorem d_IS_held_9 : decode b_IS_held 9 = .ok (.invokevirtual 85, 3) := by decide +kernel
theorem d_IS_held_12 : decode b_IS_held 12 = .ok (.iload_n 2, 1) := by decide +kernel
theorem d_IS_held_13 : decode b_IS_held 13 = .ok (.invokevirtual 57, 3) := by decide +kernel
theorem d_IS_held_16 : decode b_IS_held 16 = .ok (.ifCond .eq 7, 3) := by decide +kernel
theorem d_IS_held_19 : decode b_IS_held 19 = .ok (.iconst 1, 1) := by decide +kernel
theorem d_IS_held_20 : decode b_IS_held 20 = .ok (.goto 4, 3) := by decide +kernel
theorem d_IS_held_23 : decode b_IS_held 23 = .ok (.iconst 0, 1) := by decide +kernel
theorem d_IS_held_24 : decode b_IS_held 24 = .ok (.ireturn, 1) := by decide +kernel
theorem d_IS_look_0 : decode b_IS_look 0 = .ok (.aload_n 0, 1) := by decide +kernel
theorem d_IS_look_1 : decode b_IS_look 1 = .ok (.iload_n 1, 1) := by decide +kernel
theorem d_IS_look_2 : decode b_IS_look 2 = .ok (.invokevirtual 53, 3) := by decide +kernel
theorem d_IS_look_5 : decode b_IS_look 5 = .ok (.ifCond .eq 10, 3) := by decide +kernel
theorem d_IS_look_8 : decode b_IS_look 8 = .ok (.iload_n 2, 1) := by decide +kernel
theorem d_IS_look_9 : decode b_IS_look 9 = .ok (.invokestatic 111, 3) := by decide +kernel
theorem d_IS_look_12 : decode b_IS_look 12 = .ok (.ifCond .ne 7, 3) := by decide +kernel
theorem d_IS_look_15 : decode b_IS_look 15 = .ok (.ldc2_w 116, 3) := by decide +kernel
theorem d_IS_look_18 : decode b_IS_look 18 = .ok (.lreturn, 1) := by decide +kernel
theorem d_IS_look_19 : decode b_IS_look 19 = .ok (.aload_n 0, 1) := by decide +kernel
theorem d_IS_look_20 : decode b_IS_look 20 = .ok (.getfield 10, 3) := by decide +kernel
theorem d_IS_look_23 : decode b_IS_look 23 = .ok (.iload_n 1, 1) := by decide +kernel
theorem d_IS_look_24 : decode b_IS_look 24 = .ok (.invokevirtual 60, 3) := by decide +kernel
theorem d_IS_look_27 : decode b_IS_look 27 = .ok (.checkcast 44, 3) := by decide +kernel
theorem d_IS_look_30 : decode b_IS_look 30 = .ok (.getfield 64, 3) := by decide +kernel
theorem d_IS_look_33 : decode b_IS_look 33 = .ok (.iload_n 2, 1) := by decide +kernel
theorem d_IS_look_34 : decode b_IS_look 34 = .ok (.invokevirtual 118, 3) := by decide +kernel
theorem d_IS_look_37 : decode b_IS_look 37 = .ok (.lreturn, 1) := by decide +kernel
theorem d_PA_inRange_0 : decode b_PA_inRange 0 = .ok (.iload_n 0, 1) := by decide +kernel
theorem d_PA_inRange_1 : decode b_PA_inRange 1 = .ok (.ifCond .lt 13, 3) := by decide +kernel
theorem d_PA_inRange_4 : decode b_PA_inRange 4 = .ok (.iload_n 0, 1) := by decide +kernel
theorem d_PA_inRange_5 : decode b_PA_inRange 5 = .ok (.bipush 125, 2) := by decide +kernel
theorem d_PA_inRange_7 : decode b_PA_inRange 7 = .ok (.if_icmp .ge 7, 3) := by decide +kernel
theorem d_PA_inRange_10 : decode b_PA_inRange 10 = .ok (.iconst 1, 1) := by decide +kernel
theorem d_PA_inRange_11 : decode b_PA_inRange 11 = .ok (.goto 4, 3) := by decide +kernel
theorem d_PA_inRange_14 : decode b_PA_inRange 14 = .ok (.iconst 0, 1) := by decide +kernel
theorem d_PA_inRange_15 : decode b_PA_inRange 15 = .ok (.ireturn, 1) := by decide +kernel
theorem d_IS_next_0 : decode b_IS_next 0 = .ok (.aload_n 0, 1) := by decide +kernel
theorem d_IS_next_1 : decode b_IS_next 1 = .ok (.iload_n 1, 1) := by decide +kernel
theorem d_IS_next_2 : decode b_IS_next 2 = .ok (.invokevirtual 53, 3) := by decide +kernel
theorem d_IS_next_5 : decode b_IS_next 5 = .ok (.ifCond .eq 10, 3) := by decide +kernel
theorem d_IS_next_8 : decode b_IS_next 8 = .ok (.iload_n 2, 1) := by decide +kernel
theorem d_IS_next_9 : decode b_IS_next 9 = .ok (.invokestatic 111, 3) := by decide +kernel
theorem d_IS_next_12 : decode b_IS_next 12 = .ok (.ifCond .ne 5, 3) := by decide +kernel
theorem d_IS_next_15 : decode b_IS_next 15 = .ok (.iconst (-1), 1) := by decide +kernel
theorem d_IS_next_16 : decode b_IS_next 16 = .ok (.ireturn, 1) := by decide +kernel
theorem d_IS_next_17 : decode b_IS_next 17 = .ok (.aload_n 0, 1) := by decide +kernel
theorem d_IS_next_18 : decode b_IS_next 18 = .ok (.getfield 10, 3) := by decide +kernel
theorem d_IS_next_21 : decode b_IS_next 21 = .ok (.iload_n 1, 1) := by decide +kernel
theorem d_IS_next_22 : decode b_IS_next 22 = .ok (.invokevirtual 60, 3) := by decide +kernel
theorem d_IS_next_25 : decode b_IS_next 25 = .ok (.checkcast 44, 3) := by decide +kernel
theorem d_IS_next_28 : decode b_IS_next 28 = .ok (.getfield 64, 3) := by decide +kernel
theorem d_IS_next_31 : decode b_IS_next 31 = .ok (.iload_n 2, 1) := by decide +kernel
theorem d_IS_next_32 : decode b_IS_next 32 = .ok (.invokevirtual 122, 3) := by decide +kernel
theorem d_IS_next_35 : decode b_IS_next 35 = .ok (.ireturn, 1) := by decide +kernel
theorem d_TR_presentAfter_0 : decode b_TR_presentAfter 0 = .ok (.iload_n 1, 1) := by decide +kernel
theorem d_TR_presentAfter_1 : decode b_TR_presentAfter 1 = .ok (.iconst 1, 1) := by decide +kernel
theorem d_TR_presentAfter_2 : decode b_TR_presentAfter 2 = .ok (.iadd, 1) := by decide +kernel
theorem d_TR_presentAfter_3 : decode b_TR_presentAfter 3 = .ok (.istore_n 2, 1) := by decide +kernel
theorem d_TR_presentAfter_4 : decode b_TR_presentAfter 4 = .ok (.iload_n 2, 1) := by decide +kernel
theorem d_TR_presentAfter_5 : decode b_TR_presentAfter 5 = .ok (.bipush 125, 2) := by decide +kernel
theorem d_TR_presentAfter_7 : decode b_TR_presentAfter 7 = .ok (.if_icmp .ge 22, 3) := by decide +kernel
theorem d_TR_presentAfter_10 : decode b_TR_presentAfter 10 = .ok (.aload_n 0, 1) := by decide +kernel
theorem d_TR_presentAfter_11 : decode b_TR_presentAfter 11 = .ok (.getfield 9, 3) := by decide +kernel
theorem d_TR_presentAfter_14 : decode b_TR_presentAfter 14 = .ok (.iload_n 2, 1) := by decide +kernel
theorem d_TR_presentAfter_15 : decode b_TR_presentAfter 15 = .ok (.laload, 1) := by decide +kernel
theorem d_TR_presentAfter_16 : decode b_TR_presentAfter 16 = .ok (.ldc2_w 15, 3) := by decide +kernel
theorem d_TR_presentAfter_19 : decode b_TR_presentAfter 19 = .ok (.lcmp, 1) := by decide +kernel
theorem d_TR_presentAfter_20 : decode b_TR_presentAfter 20 = .ok (.ifCond .ne 9, 3) := by decide +kernel
theorem d_TR_presentAfter_23 : decode b_TR_presentAfter 23 = .ok (.iinc 2 1, 3) := by decide +kernel
theorem d_TR_presentAfter_26 : decode b_TR_presentAfter 26 = .ok (.goto (-22), 3) := by decide +kernel
theorem d_TR_presentAfter_29 : decode b_TR_presentAfter 29 = .ok (.iload_n 2, 1) := by decide +kernel
theorem d_TR_presentAfter_30 : decode b_TR_presentAfter 30 = .ok (.ireturn, 1) := by decide +kernel
theorem d_IS_layers_0 : decode b_IS_layers 0 = .ok (.aload_n 0, 1) := by decide +kernel
theorem d_IS_layers_1 : decode b_IS_layers 1 = .ok (.iload_n 1, 1) := by decide +kernel
theorem d_IS_layers_2 : decode b_IS_layers 2 = .ok (.invokevirtual 53, 3) := by decide +kernel
theorem d_IS_layers_5 : decode b_IS_layers 5 = .ok (.ifCond .eq 21, 3) := by decide +kernel
theorem d_IS_layers_8 : decode b_IS_layers 8 = .ok (.aload_n 0, 1) := by decide +kernel
theorem d_IS_layers_9 : decode b_IS_layers 9 = .ok (.getfield 10, 3) := by decide +kernel
theorem d_IS_layers_12 : decode b_IS_layers 12 = .ok (.iload_n 1, 1) := by decide +kernel
theorem d_IS_layers_13 : decode b_IS_layers 13 = .ok (.invokevirtual 60, 3) := by decide +kernel
theorem d_IS_layers_16 : decode b_IS_layers 16 = .ok (.checkcast 44, 3) := by decide +kernel
theorem d_IS_layers_19 : decode b_IS_layers 19 = .ok (.getfield 125, 3) := by decide +kernel
theorem d_IS_layers_22 : decode b_IS_layers 22 = .ok (.arraylength, 1) := by decide +kernel
theorem d_IS_layers_23 : decode b_IS_layers 23 = .ok (.goto 4, 3) := by decide +kernel
theorem d_IS_layers_26 : decode b_IS_layers 26 = .ok (.iconst (-1), 1) := by decide +kernel
theorem d_IS_layers_27 : decode b_IS_layers 27 = .ok (.ireturn, 1) := by decide +kernel
theorem d_IS_entries_0 : decode b_IS_entries 0 = .ok (.aload_n 0, 1) := by decide +kernel
theorem d_IS_entries_1 : decode b_IS_entries 1 = .ok (.iload_n 1, 1) := by decide +kernel
theorem d_IS_entries_2 : decode b_IS_entries 2 = .ok (.iload_n 2, 1) := by decide +kernel
theorem d_IS_entries_3 : decode b_IS_entries 3 = .ok (.invokevirtual 129, 3) := by decide +kernel
theorem d_IS_entries_6 : decode b_IS_entries 6 = .ok (.ifCond .eq 15, 3) := by decide +kernel
theorem d_IS_entries_9 : decode b_IS_entries 9 = .ok (.aload_n 0, 1) := by decide +kernel
theorem d_IS_entries_10 : decode b_IS_entries 10 = .ok (.iload_n 1, 1) := by decide +kernel
theorem d_IS_entries_11 : decode b_IS_entries 11 = .ok (.iload_n 2, 1) := by decide +kernel
theorem d_IS_entries_12 : decode b_IS_entries 12 = .ok (.invokevirtual 132, 3) := by decide +kernel
theorem d_IS_entries_15 : decode b_IS_entries 15 = .ok (.invokevirtual 136, 3) := by decide +kernel
theorem d_IS_entries_18 : decode b_IS_entries 18 = .ok (.goto 4, 3) := by decide +kernel
theorem d_IS_entries_21 : decode b_IS_entries 21 = .ok (.iconst (-1), 1) := by decide +kernel
theorem d_IS_entries_22 : decode b_IS_entries 22 = .ok (.ireturn, 1) := by decide +kernel
theorem d_IS_hasLayer_0 : decode b_IS_hasLayer 0 = .ok (.aload_n 0, 1) := by decide +kernel
theorem d_IS_hasLayer_1 : decode b_IS_hasLayer 1 = .ok (.iload_n 1, 1) := by decide +kernel
theorem d_IS_hasLayer_2 : decode b_IS_hasLayer 2 = .ok (.invokevirtual 53, 3) := by decide +kernel
theorem d_IS_hasLayer_5 : decode b_IS_hasLayer 5 = .ok (.ifCond .eq 30, 3) := by decide +kernel
theorem d_IS_hasLayer_8 : decode b_IS_hasLayer 8 = .ok (.iload_n 2, 1) := by decide +kernel
theorem d_IS_hasLayer_9 : decode b_IS_hasLayer 9 = .ok (.ifCond .lt 26, 3) := by decide +kernel
theorem d_IS_hasLayer_12 : decode b_IS_hasLayer 12 = .ok (.iload_n 2, 1) := by decide +kernel
theorem d_IS_hasLayer_13 : decode b_IS_hasLayer 13 = .ok (.aload_n 0, 1) := by decide +kernel
theorem d_IS_hasLayer_14 : decode b_IS_hasLayer 14 = .ok (.getfield 10, 3) := by decide +kernel
theorem d_IS_hasLayer_17 : decode b_IS_hasLayer 17 = .ok (.iload_n 1, 1) := by decide +kernel
theorem d_IS_hasLayer_18 : decode b_IS_hasLayer 18 = .ok (.invokevirtual 60, 3) := by decide +kernel
theorem d_IS_hasLayer_21 : decode b_IS_hasLayer 21 = .ok (.checkcast 44, 3) := by decide +kernel
theorem d_IS_hasLayer_24 : decode b_IS_hasLayer 24 = .ok (.getfield 125, 3) := by decide +kernel
theorem d_IS_hasLayer_27 : decode b_IS_hasLayer 27 = .ok (.arraylength, 1) := by decide +kernel
theorem d_IS_hasLayer_28 : decode b_IS_hasLayer 28 = .ok (.if_icmp .ge 7, 3) := by decide +kernel
theorem d_IS_hasLayer_31 : decode b_IS_hasLayer 31 = .ok (.iconst 1, 1) := by decide +kernel
theorem d_IS_hasLayer_32 : decode b_IS_hasLayer 32 = .ok (.goto 4, 3) := by decide +kernel
theorem d_IS_hasLayer_35 : decode b_IS_hasLayer 35 = .ok (.iconst 0, 1) := by decide +kernel
theorem d_IS_hasLayer_36 : decode b_IS_hasLayer 36 = .ok (.ireturn, 1) := by decide +kernel
theorem d_IS_layerOf_0 : decode b_IS_layerOf 0 = .ok (.aload_n 0, 1) := by decide +kernel
theorem d_IS_layerOf_1 : decode b_IS_layerOf 1 = .ok (.getfield 16, 3) := by decide +kernel
theorem d_IS_layerOf_4 : decode b_IS_layerOf 4 = .ok (.aload_n 0, 1) := by decide +kernel
theorem d_IS_layerOf_5 : decode b_IS_layerOf 5 = .ok (.getfield 10, 3) := by decide +kernel
theorem d_IS_layerOf_8 : decode b_IS_layerOf 8 = .ok (.iload_n 1, 1) := by decide +kernel
theorem d_IS_layerOf_9 : decode b_IS_layerOf 9 = .ok (.invokevirtual 60, 3) := by decide +kernel
theorem d_IS_layerOf_12 : decode b_IS_layerOf 12 = .ok (.checkcast 44, 3) := by decide +kernel
theorem d_IS_layerOf_15 : decode b_IS_layerOf 15 = .ok (.getfield 125, 3) := by decide +kernel
theorem d_IS_layerOf_18 : decode b_IS_layerOf 18 = .ok (.iload_n 2, 1) := by decide +kernel
theorem d_IS_layerOf_19 : decode b_IS_layerOf 19 = .ok (.iaload, 1) := by decide +kernel
theorem d_IS_layerOf_20 : decode b_IS_layerOf 20 = .ok (.invokevirtual 60, 3) := by decide +kernel
theorem d_IS_layerOf_23 : decode b_IS_layerOf 23 = .ok (.checkcast 137, 3) := by decide +kernel
theorem d_IS_layerOf_26 : decode b_IS_layerOf 26 = .ok (.areturn, 1) := by decide +kernel
theorem d_LY_size_0 : decode b_LY_size 0 = .ok (.aload_n 0, 1) := by decide +kernel
theorem d_LY_size_1 : decode b_LY_size 1 = .ok (.getfield 17, 3) := by decide +kernel
theorem d_LY_size_4 : decode b_LY_size 4 = .ok (.arraylength, 1) := by decide +kernel
theorem d_LY_size_5 : decode b_LY_size 5 = .ok (.ireturn, 1) := by decide +kernel
theorem d_IS_entryPath_0 : decode b_IS_entryPath 0 = .ok (.aload_n 0, 1) := by decide +kernel
theorem d_IS_entryPath_1 : decode b_IS_entryPath 1 = .ok (.iload_n 1, 1) := by decide +kernel
theorem d_IS_entryPath_2 : decode b_IS_entryPath 2 = .ok (.iload_n 2, 1) := by decide +kernel
theorem d_IS_entryPath_3 : decode b_IS_entryPath 3 = .ok (.iload_n 3, 1) := by decide +kernel
theorem d_IS_entryPath_4 : decode b_IS_entryPath 4 = .ok (.invokevirtual 142, 3) := by decide +kernel
theorem d_IS_entryPath_7 : decode b_IS_entryPath 7 = .ok (.ifCond .eq 17, 3) := by decide +kernel
theorem d_IS_entryPath_10 : decode b_IS_entryPath 10 = .ok (.aload_n 0, 1) := by decide +kernel
theorem d_IS_entryPath_11 : decode b_IS_entryPath 11 = .ok (.iload_n 1, 1) := by decide +kernel
theorem d_IS_entryPath_12 : decode b_IS_entryPath 12 = .ok (.iload_n 2, 1) := by decide +kernel
theorem d_IS_entryPath_13 : decode b_IS_entryPath 13 = .ok (.invokevirtual 132, 3) := by decide +kernel
theorem d_IS_entryPath_16 : decode b_IS_entryPath 16 = .ok (.getfield 145, 3) := by decide +kernel
theorem d_IS_entryPath_19 : decode b_IS_entryPath 19 = .ok (.iload_n 3, 1) := by decide +kernel
theorem d_IS_entryPath_20 : decode b_IS_entryPath 20 = .ok (.iaload, 1) := by decide +kernel
theorem d_IS_entryPath_21 : decode b_IS_entryPath 21 = .ok (.goto 4, 3) := by decide +kernel
theorem d_IS_entryPath_24 : decode b_IS_entryPath 24 = .ok (.iconst (-1), 1) := by decide +kernel
theorem d_IS_entryPath_25 : decode b_IS_entryPath 25 = .ok (.ireturn, 1) := by decide +kernel
theorem d_IS_hasEntry_0 : decode b_IS_hasEntry 0 = .ok (.aload_n 0, 1) := by decide +kernel
theorem d_IS_hasEntry_1 : decode b_IS_hasEntry 1 = .ok (.iload_n 1, 1) := by decide +kernel
theorem d_IS_hasEntry_2 : decode b_IS_hasEntry 2 = .ok (.iload_n 2, 1) := by decide +kernel
theorem d_IS_hasEntry_3 : decode b_IS_hasEntry 3 = .ok (.invokevirtual 129, 3) := by decide +kernel
theorem d_IS_hasEntry_6 : decode b_IS_hasEntry 6 = .ok (.ifCond .eq 24, 3) := by decide +kernel
theorem d_IS_hasEntry_9 : decode b_IS_hasEntry 9 = .ok (.iload_n 3, 1) := by decide +kernel
theorem d_IS_hasEntry_10 : decode b_IS_hasEntry 10 = .ok (.ifCond .lt 20, 3) := by decide +kernel
theorem d_IS_hasEntry_13 : decode b_IS_hasEntry 13 = .ok (.iload_n 3, 1) := by decide +kernel
theorem d_IS_hasEntry_14 : decode b_IS_hasEntry 14 = .ok (.aload_n 0, 1) := by decide +kernel
theorem d_IS_hasEntry_15 : decode b_IS_hasEntry 15 = .ok (.iload_n 1, 1) := by decide +kernel
theorem d_IS_hasEntry_16 : decode b_IS_hasEntry 16 = .ok (.iload_n 2, 1) := by decide +kernel
theorem d_IS_hasEntry_17 : decode b_IS_hasEntry 17 = .ok (.invokevirtual 132, 3) := by decide +kernel
theorem d_IS_hasEntry_20 : decode b_IS_hasEntry 20 = .ok (.invokevirtual 136, 3) := by decide +kernel
theorem d_IS_hasEntry_23 : decode b_IS_hasEntry 23 = .ok (.if_icmp .ge 7, 3) := by decide +kernel
theorem d_IS_hasEntry_26 : decode b_IS_hasEntry 26 = .ok (.iconst 1, 1) := by decide +kernel
theorem d_IS_hasEntry_27 : decode b_IS_hasEntry 27 = .ok (.goto 4, 3) := by decide +kernel
theorem d_IS_hasEntry_30 : decode b_IS_hasEntry 30 = .ok (.iconst 0, 1) := by decide +kernel
theorem d_IS_hasEntry_31 : decode b_IS_hasEntry 31 = .ok (.ireturn, 1) := by decide +kernel
theorem d_IS_entryMark_0 : decode b_IS_entryMark 0 = .ok (.aload_n 0, 1) := by decide +kernel
theorem d_IS_entryMark_1 : decode b_IS_entryMark 1 = .ok (.iload_n 1, 1) := by decide +kernel
theorem d_IS_entryMark_2 : decode b_IS_entryMark 2 = .ok (.iload_n 2, 1) := by decide +kernel
theorem d_IS_entryMark_3 : decode b_IS_entryMark 3 = .ok (.iload_n 3, 1) := by decide +kernel
theorem d_IS_entryMark_4 : decode b_IS_entryMark 4 = .ok (.invokevirtual 142, 3) := by decide +kernel
theorem d_IS_entryMark_7 : decode b_IS_entryMark 7 = .ok (.ifCond .eq 17, 3) := by decide +kernel
theorem d_IS_entryMark_10 : decode b_IS_entryMark 10 = .ok (.aload_n 0, 1) := by decide +kernel
theorem d_IS_entryMark_11 : decode b_IS_entryMark 11 = .ok (.iload_n 1, 1) := by decide +kernel
theorem d_IS_entryMark_12 : decode b_IS_entryMark 12 = .ok (.iload_n 2, 1) := by decide +kernel
theorem d_IS_entryMark_13 : decode b_IS_entryMark 13 = .ok (.invokevirtual 132, 3) := by decide +kernel
theorem d_IS_entryMark_16 : decode b_IS_entryMark 16 = .ok (.getfield 148, 3) := by decide +kernel
theorem d_IS_entryMark_19 : decode b_IS_entryMark 19 = .ok (.iload_n 3, 1) := by decide +kernel
theorem d_IS_entryMark_20 : decode b_IS_entryMark 20 = .ok (.laload, 1) := by decide +kernel
theorem d_IS_entryMark_21 : decode b_IS_entryMark 21 = .ok (.goto 6, 3) := by decide +kernel
theorem d_IS_entryMark_24 : decode b_IS_entryMark 24 = .ok (.ldc2_w 116, 3) := by decide +kernel
theorem d_IS_entryMark_27 : decode b_IS_entryMark 27 = .ok (.lreturn, 1) := by decide +kernel
theorem d_IS_common_0 : decode b_IS_common 0 = .ok (.aload_n 0, 1) := by decide +kernel
theorem d_IS_common_1 : decode b_IS_common 1 = .ok (.iload_n 1, 1) := by decide +kernel
theorem d_IS_common_2 : decode b_IS_common 2 = .ok (.invokevirtual 53, 3) := by decide +kernel
theorem d_IS_common_5 : decode b_IS_common 5 = .ok (.ifCond .eq 11, 3) := by decide +kernel
theorem d_IS_common_8 : decode b_IS_common 8 = .ok (.aload_n 0, 1) := by decide +kernel
theorem d_IS_common_9 : decode b_IS_common 9 = .ok (.iload_n 2, 1) := by decide +kernel
theorem d_IS_common_10 : decode b_IS_common 10 = .ok (.invokevirtual 53, 3) := by decide +kernel
theorem d_IS_common_13 : decode b_IS_common 13 = .ok (.ifCond .ne 5, 3) := by decide +kernel
theorem d_IS_common_16 : decode b_IS_common 16 = .ok (.iconst (-1), 1) := by decide +kernel
theorem d_IS_common_17 : decode b_IS_common 17 = .ok (.ireturn, 1) := by decide +kernel
theorem d_IS_common_18 : decode b_IS_common 18 = .ok (.aload_n 0, 1) := by decide +kernel
theorem d_IS_common_19 : decode b_IS_common 19 = .ok (.getfield 10, 3) := by decide +kernel
theorem d_IS_common_22 : decode b_IS_common 22 = .ok (.iload_n 1, 1) := by decide +kernel
theorem d_IS_common_23 : decode b_IS_common 23 = .ok (.invokevirtual 60, 3) := by decide +kernel
theorem d_IS_common_26 : decode b_IS_common 26 = .ok (.checkcast 44, 3) := by decide +kernel
theorem d_IS_common_29 : decode b_IS_common 29 = .ok (.getfield 125, 3) := by decide +kernel
theorem d_IS_common_32 : decode b_IS_common 32 = .ok (.astore_n 3, 1) := by decide +kernel
theorem d_IS_common_33 : decode b_IS_common 33 = .ok (.aload_n 0, 1) := by decide +kernel
theorem d_IS_common_34 : decode b_IS_common 34 = .ok (.getfield 10, 3) := by decide +kernel
theorem d_IS_common_37 : decode b_IS_common 37 = .ok (.iload_n 2, 1) := by decide +kernel
theorem d_IS_common_38 : decode b_IS_common 38 = .ok (.invokevirtual 60, 3) := by decide +kernel
theorem d_IS_common_41 : decode b_IS_common 41 = .ok (.checkcast 44, 3) := by decide +kernel
theorem d_IS_common_44 : decode b_IS_common 44 = .ok (.getfield 125, 3) := by decide +kernel
theorem d_IS_common_47 : decode b_IS_common 47 = .ok (.astore 4, 2) := by decide +kernel
theorem d_IS_common_49 : decode b_IS_common 49 = .ok (.aload_n 3, 1) := by decide +kernel
theorem d_IS_common_50 : decode b_IS_common 50 = .ok (.arraylength, 1) := by decide +kernel
theorem d_IS_common_51 : decode b_IS_common 51 = .ok (.aload 4, 2) := by decide +kernel
theorem d_IS_common_53 : decode b_IS_common 53 = .ok (.arraylength, 1) := by decide +kernel
theorem d_IS_common_54 : decode b_IS_common 54 = .ok (.invokestatic 152, 3) := by decide +kernel
theorem d_IS_common_57 : decode b_IS_common 57 = .ok (.istore 5, 2) := by decide +kernel
theorem d_IS_common_59 : decode b_IS_common 59 = .ok (.iconst 0, 1) := by decide +kernel
theorem d_IS_common_60 : decode b_IS_common 60 = .ok (.istore 6, 2) := by decide +kernel
theorem d_IS_common_62 : decode b_IS_common 62 = .ok (.iload 6, 2) := by decide +kernel
theorem d_IS_common_64 : decode b_IS_common 64 = .ok (.iload 5, 2) := by decide +kernel
theorem d_IS_common_66 : decode b_IS_common 66 = .ok (.if_icmp .ge 21, 3) := by decide +kernel
theorem d_IS_common_69 : decode b_IS_common 69 = .ok (.aload_n 3, 1) := by decide +kernel
theorem d_IS_common_70 : decode b_IS_common 70 = .ok (.iload 6, 2) := by decide +kernel
theorem d_IS_common_72 : decode b_IS_common 72 = .ok (.iaload, 1) := by decide +kernel
theorem d_IS_common_73 : decode b_IS_common 73 = .ok (.aload 4, 2) := by decide +kernel
theorem d_IS_common_75 : decode b_IS_common 75 = .ok (.iload 6, 2) := by decide +kernel
theorem d_IS_common_77 : decode b_IS_common 77 = .ok (.iaload, 1) := by decide +kernel
theorem d_IS_common_78 : decode b_IS_common 78 = .ok (.if_icmp .ne 9, 3) := by decide +kernel
theorem d_IS_common_81 : decode b_IS_common 81 = .ok (.iinc 6 1, 3) := by decide +kernel
theorem d_IS_common_84 : decode b_IS_common 84 = .ok (.goto (-22), 3) := by decide +kernel
theorem d_IS_common_87 : decode b_IS_common 87 = .ok (.iload 6, 2) := by decide +kernel
theorem d_IS_common_89 : decode b_IS_common 89 = .ok (.ireturn, 1) := by decide +kernel
theorem d_IS_shared_0 : decode b_IS_shared 0 = .ok (.aload_n 0, 1) := by decide +kernel
theorem d_IS_shared_1 : decode b_IS_shared 1 = .ok (.iload_n 1, 1) := by decide +kernel
theorem d_IS_shared_2 : decode b_IS_shared 2 = .ok (.invokevirtual 53, 3) := by decide +kernel
theorem d_IS_shared_5 : decode b_IS_shared 5 = .ok (.ifCond .eq 11, 3) := by decide +kernel
theorem d_IS_shared_8 : decode b_IS_shared 8 = .ok (.aload_n 0, 1) := by decide +kernel
theorem d_IS_shared_9 : decode b_IS_shared 9 = .ok (.iload_n 2, 1) := by decide +kernel
theorem d_IS_shared_10 : decode b_IS_shared 10 = .ok (.invokevirtual 53, 3) := by decide +kernel
theorem d_IS_shared_13 : decode b_IS_shared 13 = .ok (.ifCond .ne 5, 3) := by decide +kernel
theorem d_IS_shared_16 : decode b_IS_shared 16 = .ok (.iconst (-1), 1) := by decide +kernel
theorem d_IS_shared_17 : decode b_IS_shared 17 = .ok (.ireturn, 1) := by decide +kernel
theorem d_IS_shared_18 : decode b_IS_shared 18 = .ok (.iconst 0, 1) := by decide +kernel
theorem d_IS_shared_19 : decode b_IS_shared 19 = .ok (.istore_n 3, 1) := by decide +kernel
theorem d_IS_shared_20 : decode b_IS_shared 20 = .ok (.aload_n 0, 1) := by decide +kernel
theorem d_IS_shared_21 : decode b_IS_shared 21 = .ok (.getfield 10, 3) := by decide +kernel
theorem d_IS_shared_24 : decode b_IS_shared 24 = .ok (.iload_n 1, 1) := by decide +kernel
theorem d_IS_shared_25 : decode b_IS_shared 25 = .ok (.invokevirtual 60, 3) := by decide +kernel
theorem d_IS_shared_28 : decode b_IS_shared 28 = .ok (.checkcast 44, 3) := by decide +kernel
theorem d_IS_shared_31 : decode b_IS_shared 31 = .ok (.getfield 125, 3) := by decide +kernel
theorem d_IS_shared_34 : decode b_IS_shared 34 = .ok (.astore 4, 2) := by decide +kernel
theorem d_IS_shared_36 : decode b_IS_shared 36 = .ok (.aload 4, 2) := by decide +kernel
theorem d_IS_shared_38 : decode b_IS_shared 38 = .ok (.arraylength, 1) := by decide +kernel
theorem d_IS_shared_39 : decode b_IS_shared 39 = .ok (.istore 5, 2) := by decide +kernel
theorem d_IS_shared_41 : decode b_IS_shared 41 = .ok (.iconst 0, 1) := by decide +kernel
theorem d_IS_shared_42 : decode b_IS_shared 42 = .ok (.istore 6, 2) := by decide +kernel
theorem d_IS_shared_44 : decode b_IS_shared 44 = .ok (.iload 6, 2) := by decide +kernel
theorem d_IS_shared_46 : decode b_IS_shared 46 = .ok (.iload 5, 2) := by decide +kernel
theorem d_IS_shared_48 : decode b_IS_shared 48 = .ok (.if_icmp .ge 38, 3) := by decide +kernel
theorem d_IS_shared_51 : decode b_IS_shared 51 = .ok (.aload 4, 2) := by decide +kernel
theorem d_IS_shared_53 : decode b_IS_shared 53 = .ok (.iload 6, 2) := by decide +kernel
theorem d_IS_shared_55 : decode b_IS_shared 55 = .ok (.iaload, 1) := by decide +kernel
theorem d_IS_shared_56 : decode b_IS_shared 56 = .ok (.istore 7, 2) := by decide +kernel
theorem d_IS_shared_58 : decode b_IS_shared 58 = .ok (.aload_n 0, 1) := by decide +kernel
theorem d_IS_shared_59 : decode b_IS_shared 59 = .ok (.getfield 10, 3) := by decide +kernel
theorem d_IS_shared_62 : decode b_IS_shared 62 = .ok (.iload_n 2, 1) := by decide +kernel
theorem d_IS_shared_63 : decode b_IS_shared 63 = .ok (.invokevirtual 60, 3) := by decide +kernel
theorem d_IS_shared_66 : decode b_IS_shared 66 = .ok (.checkcast 44, 3) := by decide +kernel
theorem d_IS_shared_69 : decode b_IS_shared 69 = .ok (.iload 7, 2) := by decide +kernel
theorem d_IS_shared_71 : decode b_IS_shared 71 = .ok (.invokevirtual 158, 3) := by decide +kernel
theorem d_IS_shared_74 : decode b_IS_shared 74 = .ok (.ifCond .eq 6, 3) := by decide +kernel
theorem d_IS_shared_77 : decode b_IS_shared 77 = .ok (.iinc 3 1, 3) := by decide +kernel
theorem d_IS_shared_80 : decode b_IS_shared 80 = .ok (.iinc 6 1, 3) := by decide +kernel
theorem d_IS_shared_83 : decode b_IS_shared 83 = .ok (.goto (-39), 3) := by decide +kernel
theorem d_IS_shared_86 : decode b_IS_shared 86 = .ok (.iload_n 3, 1) := by decide +kernel
theorem d_IS_shared_87 : decode b_IS_shared 87 = .ok (.ireturn, 1) := by decide +kernel
theorem d_IM_hasLayerNumber_0 : decode b_IM_hasLayerNumber 0 = .ok (.aload_n 0, 1) := by decide +kernel
theorem d_IM_hasLayerNumber_1 : decode b_IM_hasLayerNumber 1 = .ok (.getfield 17, 3) := by decide +kernel
theorem d_IM_hasLayerNumber_4 : decode b_IM_hasLayerNumber 4 = .ok (.astore_n 2, 1) := by decide +kernel
theorem d_IM_hasLayerNumber_5 : decode b_IM_hasLayerNumber 5 = .ok (.aload_n 2, 1) := by decide +kernel
theorem d_IM_hasLayerNumber_6 : decode b_IM_hasLayerNumber 6 = .ok (.arraylength, 1) := by decide +kernel
theorem d_IM_hasLayerNumber_7 : decode b_IM_hasLayerNumber 7 = .ok (.istore_n 3, 1) := by decide +kernel
theorem d_IM_hasLayerNumber_8 : decode b_IM_hasLayerNumber 8 = .ok (.iconst 0, 1) := by decide +kernel
theorem d_IM_hasLayerNumber_9 : decode b_IM_hasLayerNumber 9 = .ok (.istore 4, 2) := by decide +kernel
theorem d_IM_hasLayerNumber_11 : decode b_IM_hasLayerNumber 11 = .ok (.iload 4, 2) := by decide +kernel
theorem d_IM_hasLayerNumber_13 : decode b_IM_hasLayerNumber 13 = .ok (.iload_n 3, 1) := by decide +kernel
theorem d_IM_hasLayerNumber_14 : decode b_IM_hasLayerNumber 14 = .ok (.if_icmp .ge 23, 3) := by decide +kernel
theorem d_IM_hasLayerNumber_17 : decode b_IM_hasLayerNumber 17 = .ok (.aload_n 2, 1) := by decide +kernel
theorem d_IM_hasLayerNumber_18 : decode b_IM_hasLayerNumber 18 = .ok (.iload 4, 2) := by decide +kernel
theorem d_IM_hasLayerNumber_20 : decode b_IM_hasLayerNumber 20 = .ok (.iaload, 1) := by decide +kernel
theorem d_IM_hasLayerNumber_21 : decode b_IM_hasLayerNumber 21 = .ok (.istore 5, 2) := by decide +kernel
theorem d_IM_hasLayerNumber_23 : decode b_IM_hasLayerNumber 23 = .ok (.iload 5, 2) := by decide +kernel
theorem d_IM_hasLayerNumber_25 : decode b_IM_hasLayerNumber 25 = .ok (.iload_n 1, 1) := by decide +kernel
theorem d_IM_hasLayerNumber_26 : decode b_IM_hasLayerNumber 26 = .ok (.if_icmp .ne 5, 3) := by decide +kernel
theorem d_IM_hasLayerNumber_29 : decode b_IM_hasLayerNumber 29 = .ok (.iconst 1, 1) := by decide +kernel
theorem d_IM_hasLayerNumber_30 : decode b_IM_hasLayerNumber 30 = .ok (.ireturn, 1) := by decide +kernel
theorem d_IM_hasLayerNumber_31 : decode b_IM_hasLayerNumber 31 = .ok (.iinc 4 1, 3) := by decide +kernel
theorem d_IM_hasLayerNumber_34 : decode b_IM_hasLayerNumber 34 = .ok (.goto (-23), 3) := by decide +kernel
theorem d_IM_hasLayerNumber_37 : decode b_IM_hasLayerNumber 37 = .ok (.iconst 0, 1) := by decide +kernel
theorem d_IM_hasLayerNumber_38 : decode b_IM_hasLayerNumber 38 = .ok (.ireturn, 1) := by decide +kernel
theorem d_IS_count_0 : decode b_IS_count 0 = .ok (.iload_n 1, 1) := by decide +kernel
theorem d_IS_count_1 : decode b_IS_count 1 = .ok (.tableswitch 88 0 5 #[39, 47, 56, 65, 74, 83], 39) := by decide +kernel
theorem d_IS_count_40 : decode b_IS_count 40 = .ok (.aload_n 0, 1) := by decide +kernel
theorem d_IS_count_41 : decode b_IS_count 41 = .ok (.getfield 10, 3) := by decide +kernel
theorem d_IS_count_44 : decode b_IS_count 44 = .ok (.invokevirtual 161, 3) := by decide +kernel
theorem d_IS_count_47 : decode b_IS_count 47 = .ok (.ireturn, 1) := by decide +kernel
theorem d_IS_count_48 : decode b_IS_count 48 = .ok (.aload_n 0, 1) := by decide +kernel
theorem d_IS_count_49 : decode b_IS_count 49 = .ok (.aload_n 0, 1) := by decide +kernel
theorem d_IS_count_50 : decode b_IS_count 50 = .ok (.getfield 22, 3) := by decide +kernel
theorem d_IS_count_53 : decode b_IS_count 53 = .ok (.invokevirtual 100, 3) := by decide +kernel
theorem d_IS_count_56 : decode b_IS_count 56 = .ok (.ireturn, 1) := by decide +kernel
theorem d_IS_count_57 : decode b_IS_count 57 = .ok (.aload_n 0, 1) := by decide +kernel
theorem d_IS_count_58 : decode b_IS_count 58 = .ok (.aload_n 0, 1) := by decide +kernel
theorem d_IS_count_59 : decode b_IS_count 59 = .ok (.getfield 26, 3) := by decide +kernel
theorem d_IS_count_62 : decode b_IS_count 62 = .ok (.invokevirtual 100, 3) := by decide +kernel
theorem d_IS_count_65 : decode b_IS_count 65 = .ok (.ireturn, 1) := by decide +kernel
theorem d_IS_count_66 : decode b_IS_count 66 = .ok (.aload_n 0, 1) := by decide +kernel
theorem d_IS_count_67 : decode b_IS_count 67 = .ok (.aload_n 0, 1) := by decide +kernel
theorem d_IS_count_68 : decode b_IS_count 68 = .ok (.getfield 22, 3) := by decide +kernel
theorem d_IS_count_71 : decode b_IS_count 71 = .ok (.invokevirtual 162, 3) := by decide +kernel
theorem d_IS_count_74 : decode b_IS_count 74 = .ok (.ireturn, 1) := by decide +kernel
theorem d_IS_count_75 : decode b_IS_count 75 = .ok (.aload_n 0, 1) := by decide +kernel
theorem d_IS_count_76 : decode b_IS_count 76 = .ok (.aload_n 0, 1) := by decide +kernel
theorem d_IS_count_77 : decode b_IS_count 77 = .ok (.getfield 26, 3) := by decide +kernel
theorem d_IS_count_80 : decode b_IS_count 80 = .ok (.invokevirtual 162, 3) := by decide +kernel

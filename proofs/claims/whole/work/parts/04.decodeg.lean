theorem d_MO_chooseHeld_18 : decode b_MO_chooseHeld 18 = .ok (.bipush 40, 2) := by decide +kernel
theorem d_MO_chooseHeld_20 : decode b_MO_chooseHeld 20 = .ok (.iload_n 1, 1) := by decide +kernel
theorem d_MO_chooseHeld_21 : decode b_MO_chooseHeld 21 = .ok (.imul, 1) := by decide +kernel
theorem d_MO_chooseHeld_22 : decode b_MO_chooseHeld 22 = .ok (.iload_n 2, 1) := by decide +kernel
theorem d_MO_chooseHeld_23 : decode b_MO_chooseHeld 23 = .ok (.iadd, 1) := by decide +kernel
theorem d_MO_chooseHeld_24 : decode b_MO_chooseHeld 24 = .ok (.baload, 1) := by decide +kernel
theorem d_MO_chooseHeld_25 : decode b_MO_chooseHeld 25 = .ok (.ifCond .eq 8, 3) := by decide +kernel
theorem d_MO_chooseHeld_28 : decode b_MO_chooseHeld 28 = .ok (.aload_n 0, 1) := by decide +kernel
theorem d_MO_chooseHeld_29 : decode b_MO_chooseHeld 29 = .ok (.iload_n 2, 1) := by decide +kernel
theorem d_MO_chooseHeld_30 : decode b_MO_chooseHeld 30 = .ok (.invokevirtual 121, 3) := by decide +kernel
theorem d_MO_chooseHeld_33 : decode b_MO_chooseHeld 33 = .ok (.iinc 2 1, 3) := by decide +kernel
theorem d_MO_chooseHeld_36 : decode b_MO_chooseHeld 36 = .ok (.goto (-30), 3) := by decide +kernel
theorem d_MO_chooseHeld_39 : decode b_MO_chooseHeld 39 = .ok (.return_, 1) := by decide +kernel
theorem d_MO_chooseNone_0 : decode b_MO_chooseNone 0 = .ok (.iconst 0, 1) := by decide +kernel
theorem d_MO_chooseNone_1 : decode b_MO_chooseNone 1 = .ok (.istore_n 1, 1) := by decide +kernel
theorem d_MO_chooseNone_2 : decode b_MO_chooseNone 2 = .ok (.iload_n 1, 1) := by decide +kernel
theorem d_MO_chooseNone_3 : decode b_MO_chooseNone 3 = .ok (.bipush 40, 2) := by decide +kernel
theorem d_MO_chooseNone_5 : decode b_MO_chooseNone 5 = .ok (.if_icmp .ge 16, 3) := by decide +kernel
theorem d_MO_chooseNone_8 : decode b_MO_chooseNone 8 = .ok (.aload_n 0, 1) := by decide +kernel
theorem d_MO_chooseNone_9 : decode b_MO_chooseNone 9 = .ok (.getfield 31, 3) := by decide +kernel
theorem d_MO_chooseNone_12 : decode b_MO_chooseNone 12 = .ok (.iload_n 1, 1) := by decide +kernel
theorem d_MO_chooseNone_13 : decode b_MO_chooseNone 13 = .ok (.iconst 0, 1) := by decide +kernel
theorem d_MO_chooseNone_14 : decode b_MO_chooseNone 14 = .ok (.bastore, 1) := by decide +kernel
theorem d_MO_chooseNone_15 : decode b_MO_chooseNone 15 = .ok (.iinc 1 1, 3) := by decide +kernel
theorem d_MO_chooseNone_18 : decode b_MO_chooseNone 18 = .ok (.goto (-16), 3) := by decide +kernel
theorem d_MO_chooseNone_21 : decode b_MO_chooseNone 21 = .ok (.return_, 1) := by decide +kernel
theorem d_MO_choose_0 : decode b_MO_choose 0 = .ok (.iload_n 1, 1) := by decide +kernel
theorem d_MO_choose_1 : decode b_MO_choose 1 = .ok (.istore_n 2, 1) := by decide +kernel
theorem d_MO_choose_2 : decode b_MO_choose 2 = .ok (.iload_n 2, 1) := by decide +kernel
theorem d_MO_choose_3 : decode b_MO_choose 3 = .ok (.ifCond .eq 20, 3) := by decide +kernel
theorem d_MO_choose_6 : decode b_MO_choose 6 = .ok (.aload_n 0, 1) := by decide +kernel
theorem d_MO_choose_7 : decode b_MO_choose 7 = .ok (.getfield 31, 3) := by decide +kernel
theorem d_MO_choose_10 : decode b_MO_choose 10 = .ok (.iload_n 2, 1) := by decide +kernel
theorem d_MO_choose_11 : decode b_MO_choose 11 = .ok (.iconst 1, 1) := by decide +kernel
theorem d_MO_choose_12 : decode b_MO_choose 12 = .ok (.bastore, 1) := by decide +kernel
theorem d_MO_choose_13 : decode b_MO_choose 13 = .ok (.aload_n 0, 1) := by decide +kernel
theorem d_MO_choose_14 : decode b_MO_choose 14 = .ok (.getfield 7, 3) := by decide +kernel
theorem d_MO_choose_17 : decode b_MO_choose 17 = .ok (.iload_n 2, 1) := by decide +kernel
theorem d_MO_choose_18 : decode b_MO_choose 18 = .ok (.iaload, 1) := by decide +kernel
theorem d_MO_choose_19 : decode b_MO_choose 19 = .ok (.istore_n 2, 1) := by decide +kernel
theorem d_MO_choose_20 : decode b_MO_choose 20 = .ok (.goto (-18), 3) := by decide +kernel
theorem d_MO_choose_23 : decode b_MO_choose 23 = .ok (.return_, 1) := by decide +kernel
theorem d_MO_different_0 : decode b_MO_different 0 = .ok (.iconst 0, 1) := by decide +kernel
theorem d_MO_different_1 : decode b_MO_different 1 = .ok (.istore_n 2, 1) := by decide +kernel
theorem d_MO_different_2 : decode b_MO_different 2 = .ok (.iconst 1, 1) := by decide +kernel
theorem d_MO_different_3 : decode b_MO_different 3 = .ok (.istore_n 3, 1) := by decide +kernel
theorem d_MO_different_4 : decode b_MO_different 4 = .ok (.iload_n 3, 1) := by decide +kernel
theorem d_MO_different_5 : decode b_MO_different 5 = .ok (.aload_n 0, 1) := by decide +kernel
theorem d_MO_different_6 : decode b_MO_different 6 = .ok (.getfield 17, 3) := by decide +kernel
theorem d_MO_different_9 : decode b_MO_different 9 = .ok (.if_icmp .ge 43, 3) := by decide +kernel
theorem d_MO_different_12 : decode b_MO_different 12 = .ok (.aload_n 0, 1) := by decide +kernel
theorem d_MO_different_13 : decode b_MO_different 13 = .ok (.getfield 31, 3) := by decide +kernel
theorem d_MO_different_16 : decode b_MO_different 16 = .ok (.iload_n 3, 1) := by decide +kernel
theorem d_MO_different_17 : decode b_MO_different 17 = .ok (.baload, 1) := by decide +kernel
theorem d_MO_different_18 : decode b_MO_different 18 = .ok (.ifCond .eq 28, 3) := by decide +kernel
theorem d_MO_different_21 : decode b_MO_different 21 = .ok (.aload_n 0, 1) := by decide +kernel
theorem d_MO_different_22 : decode b_MO_different 22 = .ok (.iload_n 3, 1) := by decide +kernel
theorem d_MO_different_23 : decode b_MO_different 23 = .ok (.iload_n 3, 1) := by decide +kernel
theorem d_MO_different_24 : decode b_MO_different 24 = .ok (.invokevirtual 127, 3) := by decide +kernel
theorem d_MO_different_27 : decode b_MO_different 27 = .ok (.ifCond .ne 19, 3) := by decide +kernel
theorem d_MO_different_30 : decode b_MO_different 30 = .ok (.iload_n 2, 1) := by decide +kernel
theorem d_MO_different_31 : decode b_MO_different 31 = .ok (.iload_n 1, 1) := by decide +kernel
theorem d_MO_different_32 : decode b_MO_different 32 = .ok (.ifCond .eq 11, 3) := by decide +kernel
theorem d_MO_different_35 : decode b_MO_different 35 = .ok (.aload_n 0, 1) := by decide +kernel
theorem d_MO_different_36 : decode b_MO_different 36 = .ok (.iload_n 3, 1) := by decide +kernel
theorem d_MO_different_37 : decode b_MO_different 37 = .ok (.invokevirtual 130, 3) := by decide +kernel
theorem d_MO_different_40 : decode b_MO_different 40 = .ok (.goto 4, 3) := by decide +kernel
theorem d_MO_different_43 : decode b_MO_different 43 = .ok (.iconst 1, 1) := by decide +kernel
theorem d_MO_different_44 : decode b_MO_different 44 = .ok (.iadd, 1) := by decide +kernel
theorem d_MO_different_45 : decode b_MO_different 45 = .ok (.istore_n 2, 1) := by decide +kernel
theorem d_MO_different_46 : decode b_MO_different 46 = .ok (.iinc 3 1, 3) := by decide +kernel
theorem d_MO_different_49 : decode b_MO_different 49 = .ok (.goto (-45), 3) := by decide +kernel
theorem d_MO_different_52 : decode b_MO_different 52 = .ok (.iload_n 2, 1) := by decide +kernel
theorem d_MO_different_53 : decode b_MO_different 53 = .ok (.ireturn, 1) := by decide +kernel
theorem d_MO_there_0 : decode b_MO_there 0 = .ok (.iconst 1, 1) := by decide +kernel
theorem d_MO_there_1 : decode b_MO_there 1 = .ok (.istore_n 3, 1) := by decide +kernel
theorem d_MO_there_2 : decode b_MO_there 2 = .ok (.iload_n 3, 1) := by decide +kernel
theorem d_MO_there_3 : decode b_MO_there 3 = .ok (.iload_n 2, 1) := by decide +kernel
theorem d_MO_there_4 : decode b_MO_there 4 = .ok (.if_icmp .ge 29, 3) := by decide +kernel
theorem d_MO_there_7 : decode b_MO_there 7 = .ok (.aload_n 0, 1) := by decide +kernel
theorem d_MO_there_8 : decode b_MO_there 8 = .ok (.getfield 31, 3) := by decide +kernel
theorem d_MO_there_11 : decode b_MO_there 11 = .ok (.iload_n 3, 1) := by decide +kernel
theorem d_MO_there_12 : decode b_MO_there 12 = .ok (.baload, 1) := by decide +kernel
theorem d_MO_there_13 : decode b_MO_there 13 = .ok (.ifCond .eq 14, 3) := by decide +kernel
theorem d_MO_there_16 : decode b_MO_there 16 = .ok (.aload_n 0, 1) := by decide +kernel
theorem d_MO_there_17 : decode b_MO_there 17 = .ok (.iload_n 3, 1) := by decide +kernel
theorem d_MO_there_18 : decode b_MO_there 18 = .ok (.iload_n 1, 1) := by decide +kernel
theorem d_MO_there_19 : decode b_MO_there 19 = .ok (.invokevirtual 124, 3) := by decide +kernel
theorem d_MO_there_22 : decode b_MO_there 22 = .ok (.ifCond .eq 5, 3) := by decide +kernel
theorem d_MO_there_25 : decode b_MO_there 25 = .ok (.iconst 1, 1) := by decide +kernel
theorem d_MO_there_26 : decode b_MO_there 26 = .ok (.ireturn, 1) := by decide +kernel
theorem d_MO_there_27 : decode b_MO_there 27 = .ok (.iinc 3 1, 3) := by decide +kernel
theorem d_MO_there_30 : decode b_MO_there 30 = .ok (.goto (-28), 3) := by decide +kernel
theorem d_MO_there_33 : decode b_MO_there 33 = .ok (.iconst 0, 1) := by decide +kernel
theorem d_MO_there_34 : decode b_MO_there 34 = .ok (.ireturn, 1) := by decide +kernel
theorem d_MO_same_0 : decode b_MO_same 0 = .ok (.iconst 1, 1) := by decide +kernel
theorem d_MO_same_1 : decode b_MO_same 1 = .ok (.istore_n 3, 1) := by decide +kernel
theorem d_MO_same_2 : decode b_MO_same 2 = .ok (.iload_n 3, 1) := by decide +kernel
theorem d_MO_same_3 : decode b_MO_same 3 = .ok (.bipush 125, 2) := by decide +kernel
theorem d_MO_same_5 : decode b_MO_same 5 = .ok (.if_icmp .ge 34, 3) := by decide +kernel
theorem d_MO_same_8 : decode b_MO_same 8 = .ok (.iload_n 3, 1) := by decide +kernel
theorem d_MO_same_9 : decode b_MO_same 9 = .ok (.invokestatic 46, 3) := by decide +kernel
theorem d_MO_same_12 : decode b_MO_same 12 = .ok (.ifCond .eq 21, 3) := by decide +kernel
theorem d_MO_same_15 : decode b_MO_same 15 = .ok (.aload_n 0, 1) := by decide +kernel
theorem d_MO_same_16 : decode b_MO_same 16 = .ok (.iload_n 1, 1) := by decide +kernel
theorem d_MO_same_17 : decode b_MO_same 17 = .ok (.iload_n 3, 1) := by decide +kernel
theorem d_MO_same_18 : decode b_MO_same 18 = .ok (.invokevirtual 111, 3) := by decide +kernel
theorem d_MO_same_21 : decode b_MO_same 21 = .ok (.aload_n 0, 1) := by decide +kernel
theorem d_MO_same_22 : decode b_MO_same 22 = .ok (.iload_n 2, 1) := by decide +kernel
theorem d_MO_same_23 : decode b_MO_same 23 = .ok (.iload_n 3, 1) := by decide +kernel
theorem d_MO_same_24 : decode b_MO_same 24 = .ok (.invokevirtual 111, 3) := by decide +kernel
theorem d_MO_same_27 : decode b_MO_same 27 = .ok (.lcmp, 1) := by decide +kernel
theorem d_MO_same_28 : decode b_MO_same 28 = .ok (.ifCond .eq 5, 3) := by decide +kernel
theorem d_MO_same_31 : decode b_MO_same 31 = .ok (.iconst 0, 1) := by decide +kernel
theorem d_MO_same_32 : decode b_MO_same 32 = .ok (.ireturn, 1) := by decide +kernel
theorem d_MO_same_33 : decode b_MO_same 33 = .ok (.iinc 3 1, 3) := by decide +kernel
theorem d_MO_same_36 : decode b_MO_same 36 = .ok (.goto (-34), 3) := by decide +kernel
theorem d_MO_same_39 : decode b_MO_same 39 = .ok (.iconst 1, 1) := by decide +kernel
theorem d_MO_same_40 : decode b_MO_same 40 = .ok (.ireturn, 1) := by decide +kernel
theorem d_MO_mark_0 : decode b_MO_mark 0 = .ok (.aload_n 0, 1) := by decide +kernel
theorem d_MO_mark_1 : decode b_MO_mark 1 = .ok (.getfield 13, 3) := by decide +kernel
theorem d_MO_mark_4 : decode b_MO_mark 4 = .ok (.bipush 125, 2) := by decide +kernel
theorem d_MO_mark_6 : decode b_MO_mark 6 = .ok (.aload_n 0, 1) := by decide +kernel
theorem d_MO_mark_7 : decode b_MO_mark 7 = .ok (.getfield 7, 3) := by decide +kernel
theorem d_MO_mark_10 : decode b_MO_mark 10 = .ok (.iload_n 1, 1) := by decide +kernel
theorem d_MO_mark_11 : decode b_MO_mark 11 = .ok (.iaload, 1) := by decide +kernel
theorem d_MO_mark_12 : decode b_MO_mark 12 = .ok (.imul, 1) := by decide +kernel
theorem d_MO_mark_13 : decode b_MO_mark 13 = .ok (.iload_n 2, 1) := by decide +kernel
theorem d_MO_mark_14 : decode b_MO_mark 14 = .ok (.iadd, 1) := by decide +kernel
theorem d_MO_mark_15 : decode b_MO_mark 15 = .ok (.laload, 1) := by decide +kernel
theorem d_MO_mark_16 : decode b_MO_mark 16 = .ok (.lstore_n 3, 1) := by decide +kernel
theorem d_MO_mark_17 : decode b_MO_mark 17 = .ok (.aload_n 0, 1) := by decide +kernel
theorem d_MO_mark_18 : decode b_MO_mark 18 = .ok (.getfield 13, 3) := by decide +kernel
theorem d_MO_mark_21 : decode b_MO_mark 21 = .ok (.bipush 125, 2) := by decide +kernel
theorem d_MO_mark_23 : decode b_MO_mark 23 = .ok (.iload_n 1, 1) := by decide +kernel
theorem d_MO_mark_24 : decode b_MO_mark 24 = .ok (.imul, 1) := by decide +kernel
theorem d_MO_mark_25 : decode b_MO_mark 25 = .ok (.iload_n 2, 1) := by decide +kernel
theorem d_MO_mark_26 : decode b_MO_mark 26 = .ok (.iadd, 1) := by decide +kernel
theorem d_MO_mark_27 : decode b_MO_mark 27 = .ok (.laload, 1) := by decide +kernel
theorem d_MO_mark_28 : decode b_MO_mark 28 = .ok (.lstore 5, 2) := by decide +kernel
theorem d_MO_mark_30 : decode b_MO_mark 30 = .ok (.lload 5, 2) := by decide +kernel
theorem d_MO_mark_32 : decode b_MO_mark 32 = .ok (.ldc2_w 36, 3) := by decide +kernel
theorem d_MO_mark_35 : decode b_MO_mark 35 = .ok (.lcmp, 1) := by decide +kernel
theorem d_MO_mark_36 : decode b_MO_mark 36 = .ok (.ifCond .eq 19, 3) := by decide +kernel
theorem d_MO_mark_39 : decode b_MO_mark 39 = .ok (.lload_n 3, 1) := by decide +kernel
theorem d_MO_mark_40 : decode b_MO_mark 40 = .ok (.lload 5, 2) := by decide +kernel
theorem d_MO_mark_42 : decode b_MO_mark 42 = .ok (.lcmp, 1) := by decide +kernel
theorem d_MO_mark_43 : decode b_MO_mark 43 = .ok (.ifCond .ne 9, 3) := by decide +kernel
theorem d_MO_mark_46 : decode b_MO_mark 46 = .ok (.ldc2_w 107, 3) := by decide +kernel
theorem d_MO_mark_49 : decode b_MO_mark 49 = .ok (.goto 5, 3) := by decide +kernel
theorem d_MO_mark_52 : decode b_MO_mark 52 = .ok (.lload 5, 2) := by decide +kernel
theorem d_MO_mark_54 : decode b_MO_mark 54 = .ok (.lreturn, 1) := by decide +kernel
theorem d_MO_mark_55 : decode b_MO_mark 55 = .ok (.lload_n 3, 1) := by decide +kernel
theorem d_MO_mark_56 : decode b_MO_mark 56 = .ok (.ldc2_w 36, 3) := by decide +kernel
theorem d_MO_mark_59 : decode b_MO_mark 59 = .ok (.lcmp, 1) := by decide +kernel
theorem d_MO_mark_60 : decode b_MO_mark 60 = .ok (.ifCond .eq 30, 3) := by decide +kernel
theorem d_MO_mark_63 : decode b_MO_mark 63 = .ok (.aload_n 0, 1) := by decide +kernel
theorem d_MO_mark_64 : decode b_MO_mark 64 = .ok (.getfield 13, 3) := by decide +kernel
theorem d_MO_mark_67 : decode b_MO_mark 67 = .ok (.bipush 125, 2) := by decide +kernel
theorem d_MO_mark_69 : decode b_MO_mark 69 = .ok (.iload_n 1, 1) := by decide +kernel
theorem d_MO_mark_70 : decode b_MO_mark 70 = .ok (.imul, 1) := by decide +kernel
theorem d_MO_mark_71 : decode b_MO_mark 71 = .ok (.iload_n 2, 1) := by decide +kernel
theorem d_MO_mark_72 : decode b_MO_mark 72 = .ok (.invokestatic 64, 3) := by decide +kernel
theorem d_MO_mark_75 : decode b_MO_mark 75 = .ok (.iadd, 1) := by decide +kernel
theorem d_MO_mark_76 : decode b_MO_mark 76 = .ok (.laload, 1) := by decide +kernel
theorem d_MO_mark_77 : decode b_MO_mark 77 = .ok (.ldc2_w 34, 3) := by decide +kernel
theorem d_MO_mark_80 : decode b_MO_mark 80 = .ok (.lcmp, 1) := by decide +kernel
theorem d_MO_mark_81 : decode b_MO_mark 81 = .ok (.ifCond .ne 9, 3) := by decide +kernel
theorem d_MO_mark_84 : decode b_MO_mark 84 = .ok (.ldc2_w 109, 3) := by decide +kernel
theorem d_MO_mark_87 : decode b_MO_mark 87 = .ok (.goto 6, 3) := by decide +kernel
theorem d_MO_mark_90 : decode b_MO_mark 90 = .ok (.ldc2_w 107, 3) := by decide +kernel
theorem d_MO_mark_93 : decode b_MO_mark 93 = .ok (.lreturn, 1) := by decide +kernel
theorem d_MO_size_0 : decode b_MO_size 0 = .ok (.iconst 0, 1) := by decide +kernel
theorem d_MO_size_1 : decode b_MO_size 1 = .ok (.istore_n 2, 1) := by decide +kernel
theorem d_MO_size_2 : decode b_MO_size 2 = .ok (.iconst 1, 1) := by decide +kernel
theorem d_MO_size_3 : decode b_MO_size 3 = .ok (.istore_n 3, 1) := by decide +kernel
theorem d_MO_size_4 : decode b_MO_size 4 = .ok (.iload_n 3, 1) := by decide +kernel
theorem d_MO_size_5 : decode b_MO_size 5 = .ok (.bipush 125, 2) := by decide +kernel
theorem d_MO_size_7 : decode b_MO_size 7 = .ok (.if_icmp .ge 32, 3) := by decide +kernel
theorem d_MO_size_10 : decode b_MO_size 10 = .ok (.iload_n 3, 1) := by decide +kernel
theorem d_MO_size_11 : decode b_MO_size 11 = .ok (.invokestatic 46, 3) := by decide +kernel
theorem d_MO_size_14 : decode b_MO_size 14 = .ok (.ifCond .eq 19, 3) := by decide +kernel
theorem d_MO_size_17 : decode b_MO_size 17 = .ok (.aload_n 0, 1) := by decide +kernel
theorem d_MO_size_18 : decode b_MO_size 18 = .ok (.iload_n 1, 1) := by decide +kernel
theorem d_MO_size_19 : decode b_MO_size 19 = .ok (.iload_n 3, 1) := by decide +kernel
theorem d_MO_size_20 : decode b_MO_size 20 = .ok (.invokevirtual 111, 3) := by decide +kernel
theorem d_MO_size_23 : decode b_MO_size 23 = .ok (.ldc2_w 107, 3) := by decide +kernel
theorem d_MO_size_26 : decode b_MO_size 26 = .ok (.lcmp, 1) := by decide +kernel
theorem d_MO_size_27 : decode b_MO_size 27 = .ok (.ifCond .eq 6, 3) := by decide +kernel
theorem d_MO_size_30 : decode b_MO_size 30 = .ok (.iinc 2 1, 3) := by decide +kernel
theorem d_MO_size_33 : decode b_MO_size 33 = .ok (.iinc 3 1, 3) := by decide +kernel
theorem d_MO_size_36 : decode b_MO_size 36 = .ok (.goto (-32), 3) := by decide +kernel
theorem d_MO_size_39 : decode b_MO_size 39 = .ok (.iload_n 2, 1) := by decide +kernel
theorem d_MO_size_40 : decode b_MO_size 40 = .ok (.ireturn, 1) := by decide +kernel
theorem d_MO_collect_0 : decode b_MO_collect 0 = .ok (.iload_n 1, 1) := by decide +kernel
theorem d_MO_collect_1 : decode b_MO_collect 1 = .ok (.ifCond .lt 8, 3) := by decide +kernel
theorem d_MO_collect_4 : decode b_MO_collect 4 = .ok (.iload_n 1, 1) := by decide +kernel
theorem d_MO_collect_5 : decode b_MO_collect 5 = .ok (.iconst 1, 1) := by decide +kernel
theorem d_MO_collect_6 : decode b_MO_collect 6 = .ok (.if_icmp .le 5, 3) := by decide +kernel
theorem d_MO_collect_9 : decode b_MO_collect 9 = .ok (.iconst (-1), 1) := by decide +kernel
theorem d_MO_collect_10 : decode b_MO_collect 10 = .ok (.ireturn, 1) := by decide +kernel
theorem d_MO_collect_11 : decode b_MO_collect 11 = .ok (.aload_n 0, 1) := by decide +kernel
theorem d_MO_collect_12 : decode b_MO_collect 12 = .ok (.iload_n 1, 1) := by decide +kernel
theorem d_MO_collect_13 : decode b_MO_collect 13 = .ok (.invokevirtual 136, 3) := by decide +kernel
theorem d_MO_collect_16 : decode b_MO_collect 16 = .ok (.aload_n 0, 1) := by decide +kernel
theorem d_MO_collect_17 : decode b_MO_collect 17 = .ok (.iconst 0, 1) := by decide +kernel
theorem d_MO_collect_18 : decode b_MO_collect 18 = .ok (.invokevirtual 139, 3) := by decide +kernel
theorem d_MO_collect_21 : decode b_MO_collect 21 = .ok (.istore_n 2, 1) := by decide +kernel
theorem d_MO_collect_22 : decode b_MO_collect 22 = .ok (.iconst 1, 1) := by decide +kernel
theorem d_MO_collect_23 : decode b_MO_collect 23 = .ok (.istore_n 3, 1) := by decide +kernel
theorem d_MO_collect_24 : decode b_MO_collect 24 = .ok (.iload_n 3, 1) := by decide +kernel
theorem d_MO_collect_25 : decode b_MO_collect 25 = .ok (.bipush 40, 2) := by decide +kernel
theorem d_MO_collect_27 : decode b_MO_collect 27 = .ok (.if_icmp .ge 21, 3) := by decide +kernel
theorem d_MO_collect_30 : decode b_MO_collect 30 = .ok (.aload_n 0, 1) := by decide +kernel
theorem d_MO_collect_31 : decode b_MO_collect 31 = .ok (.getfield 21, 3) := by decide +kernel
theorem d_MO_collect_34 : decode b_MO_collect 34 = .ok (.bipush 40, 2) := by decide +kernel
theorem d_MO_collect_36 : decode b_MO_collect 36 = .ok (.iload_n 1, 1) := by decide +kernel
theorem d_MO_collect_37 : decode b_MO_collect 37 = .ok (.imul, 1) := by decide +kernel
theorem d_MO_collect_38 : decode b_MO_collect 38 = .ok (.iload_n 3, 1) := by decide +kernel
theorem d_MO_collect_39 : decode b_MO_collect 39 = .ok (.iadd, 1) := by decide +kernel
theorem d_MO_collect_40 : decode b_MO_collect 40 = .ok (.iconst 0, 1) := by decide +kernel
theorem d_MO_collect_41 : decode b_MO_collect 41 = .ok (.bastore, 1) := by decide +kernel
theorem d_MO_collect_42 : decode b_MO_collect 42 = .ok (.iinc 3 1, 3) := by decide +kernel
theorem d_MO_collect_45 : decode b_MO_collect 45 = .ok (.goto (-21), 3) := by decide +kernel
theorem d_MO_collect_48 : decode b_MO_collect 48 = .ok (.iconst 0, 1) := by decide +kernel
theorem d_MO_collect_49 : decode b_MO_collect 49 = .ok (.istore_n 3, 1) := by decide +kernel
theorem d_MO_collect_50 : decode b_MO_collect 50 = .ok (.iload_n 3, 1) := by decide +kernel
theorem d_MO_collect_51 : decode b_MO_collect 51 = .ok (.bipush 6, 2) := by decide +kernel
theorem d_MO_collect_53 : decode b_MO_collect 53 = .ok (.if_icmp .ge 47, 3) := by decide +kernel
theorem d_MO_collect_56 : decode b_MO_collect 56 = .ok (.aload_n 0, 1) := by decide +kernel
theorem d_MO_collect_57 : decode b_MO_collect 57 = .ok (.getfield 25, 3) := by decide +kernel
theorem d_MO_collect_60 : decode b_MO_collect 60 = .ok (.bipush 6, 2) := by decide +kernel
theorem d_MO_collect_62 : decode b_MO_collect 62 = .ok (.iload_n 1, 1) := by decide +kernel
theorem d_MO_collect_63 : decode b_MO_collect 63 = .ok (.imul, 1) := by decide +kernel
theorem d_MO_collect_64 : decode b_MO_collect 64 = .ok (.iload_n 3, 1) := by decide +kernel
theorem d_MO_collect_65 : decode b_MO_collect 65 = .ok (.iadd, 1) := by decide +kernel
theorem d_MO_collect_66 : decode b_MO_collect 66 = .ok (.iaload, 1) := by decide +kernel
theorem d_MO_collect_67 : decode b_MO_collect 67 = .ok (.bipush 40, 2) := by decide +kernel
theorem d_MO_collect_69 : decode b_MO_collect 69 = .ok (.if_icmp .eq 25, 3) := by decide +kernel
theorem d_MO_collect_72 : decode b_MO_collect 72 = .ok (.aload_n 0, 1) := by decide +kernel
theorem d_MO_collect_73 : decode b_MO_collect 73 = .ok (.getfield 21, 3) := by decide +kernel
theorem d_MO_collect_76 : decode b_MO_collect 76 = .ok (.bipush 40, 2) := by decide +kernel
theorem d_MO_collect_78 : decode b_MO_collect 78 = .ok (.iload_n 1, 1) := by decide +kernel
theorem d_MO_collect_79 : decode b_MO_collect 79 = .ok (.imul, 1) := by decide +kernel
theorem d_MO_collect_80 : decode b_MO_collect 80 = .ok (.aload_n 0, 1) := by decide +kernel
theorem d_MO_collect_81 : decode b_MO_collect 81 = .ok (.getfield 25, 3) := by decide +kernel
theorem d_MO_collect_84 : decode b_MO_collect 84 = .ok (.bipush 6, 2) := by decide +kernel
theorem d_MO_collect_86 : decode b_MO_collect 86 = .ok (.iload_n 1, 1) := by decide +kernel
theorem d_MO_collect_87 : decode b_MO_collect 87 = .ok (.imul, 1) := by decide +kernel
theorem d_MO_collect_88 : decode b_MO_collect 88 = .ok (.iload_n 3, 1) := by decide +kernel
theorem d_MO_collect_89 : decode b_MO_collect 89 = .ok (.iadd, 1) := by decide +kernel
theorem d_MO_collect_90 : decode b_MO_collect 90 = .ok (.iaload, 1) := by decide +kernel
theorem d_MO_collect_91 : decode b_MO_collect 91 = .ok (.iadd, 1) := by decide +kernel
theorem d_MO_collect_92 : decode b_MO_collect 92 = .ok (.iconst 1, 1) := by decide +kernel
theorem d_MO_collect_93 : decode b_MO_collect 93 = .ok (.bastore, 1) := by decide +kernel
theorem d_MO_collect_94 : decode b_MO_collect 94 = .ok (.iinc 3 1, 3) := by decide +kernel
theorem d_MO_collect_97 : decode b_MO_collect 97 = .ok (.goto (-47), 3) := by decide +kernel
theorem d_MO_collect_100 : decode b_MO_collect 100 = .ok (.aload_n 0, 1) := by decide +kernel
theorem d_MO_collect_101 : decode b_MO_collect 101 = .ok (.iload_n 1, 1) := by decide +kernel
theorem d_MO_collect_102 : decode b_MO_collect 102 = .ok (.invokevirtual 136, 3) := by decide +kernel
theorem d_MO_collect_105 : decode b_MO_collect 105 = .ok (.iload_n 2, 1) := by decide +kernel
theorem d_MO_collect_106 : decode b_MO_collect 106 = .ok (.aload_n 0, 1) := by decide +kernel
theorem d_MO_collect_107 : decode b_MO_collect 107 = .ok (.iconst 0, 1) := by decide +kernel
theorem d_MO_collect_108 : decode b_MO_collect 108 = .ok (.invokevirtual 139, 3) := by decide +kernel
theorem d_MO_collect_111 : decode b_MO_collect 111 = .ok (.isub, 1) := by decide +kernel
theorem d_MO_collect_112 : decode b_MO_collect 112 = .ok (.ireturn, 1) := by decide +kernel
theorem d_MO_named_0 : decode b_MO_named 0 = .ok (.iload_n 1, 1) := by decide +kernel
theorem d_MO_named_1 : decode b_MO_named 1 = .ok (.iload_n 2, 1) := by decide +kernel
theorem d_MO_named_2 : decode b_MO_named 2 = .ok (.invokestatic 133, 3) := by decide +kernel
theorem d_MO_named_5 : decode b_MO_named 5 = .ok (.ifCond .eq 7, 3) := by decide +kernel
theorem d_MO_named_8 : decode b_MO_named 8 = .ok (.iconst (-1), 1) := by decide +kernel
theorem d_MO_named_9 : decode b_MO_named 9 = .ok (.goto 14, 3) := by decide +kernel
theorem d_MO_named_12 : decode b_MO_named 12 = .ok (.aload_n 0, 1) := by decide +kernel
theorem d_MO_named_13 : decode b_MO_named 13 = .ok (.getfield 25, 3) := by decide +kernel
theorem d_MO_named_16 : decode b_MO_named 16 = .ok (.bipush 6, 2) := by decide +kernel
theorem d_MO_named_18 : decode b_MO_named 18 = .ok (.iload_n 1, 1) := by decide +kernel
theorem d_MO_named_19 : decode b_MO_named 19 = .ok (.imul, 1) := by decide +kernel
theorem d_MO_named_20 : decode b_MO_named 20 = .ok (.iload_n 2, 1) := by decide +kernel
theorem d_MO_named_21 : decode b_MO_named 21 = .ok (.iadd, 1) := by decide +kernel
theorem d_MO_named_22 : decode b_MO_named 22 = .ok (.iaload, 1) := by decide +kernel
theorem d_MO_named_23 : decode b_MO_named 23 = .ok (.ireturn, 1) := by decide +kernel
theorem d_MO_held_0 : decode b_MO_held 0 = .ok (.iload_n 1, 1) := by decide +kernel
theorem d_MO_held_1 : decode b_MO_held 1 = .ok (.ifCond .lt 21, 3) := by decide +kernel
theorem d_MO_held_4 : decode b_MO_held 4 = .ok (.iload_n 1, 1) := by decide +kernel
theorem d_MO_held_5 : decode b_MO_held 5 = .ok (.iconst 1, 1) := by decide +kernel
theorem d_MO_held_6 : decode b_MO_held 6 = .ok (.if_icmp .gt 16, 3) := by decide +kernel
theorem d_MO_held_9 : decode b_MO_held 9 = .ok (.aload_n 0, 1) := by decide +kernel
theorem d_MO_held_10 : decode b_MO_held 10 = .ok (.iload_n 1, 1) := by decide +kernel
theorem d_MO_held_11 : decode b_MO_held 11 = .ok (.iload_n 2, 1) := by decide +kernel
theorem d_MO_held_12 : decode b_MO_held 12 = .ok (.invokevirtual 93, 3) := by decide +kernel
theorem d_MO_held_15 : decode b_MO_held 15 = .ok (.ifCond .eq 7, 3) := by decide +kernel
theorem d_MO_held_18 : decode b_MO_held 18 = .ok (.iconst 1, 1) := by decide +kernel
theorem d_MO_held_19 : decode b_MO_held 19 = .ok (.goto 4, 3) := by decide +kernel
theorem d_MO_held_22 : decode b_MO_held 22 = .ok (.iconst 0, 1) := by decide +kernel
theorem d_MO_held_23 : decode b_MO_held 23 = .ok (.ireturn, 1) := by decide +kernel
theorem d_MO_look_0 : decode b_MO_look 0 = .ok (.aload_n 0, 1) := by decide +kernel
theorem d_MO_look_1 : decode b_MO_look 1 = .ok (.iload_n 1, 1) := by decide +kernel
theorem d_MO_look_2 : decode b_MO_look 2 = .ok (.invokevirtual 50, 3) := by decide +kernel
theorem d_MO_look_5 : decode b_MO_look 5 = .ok (.ifCond .eq 13, 3) := by decide +kernel
theorem d_MO_look_8 : decode b_MO_look 8 = .ok (.iload_n 2, 1) := by decide +kernel
theorem d_MO_look_9 : decode b_MO_look 9 = .ok (.ifCond .lt 9, 3) := by decide +kernel
theorem d_MO_look_12 : decode b_MO_look 12 = .ok (.iload_n 2, 1) := by decide +kernel
theorem d_MO_look_13 : decode b_MO_look 13 = .ok (.bipush 124, 2) := by decide +kernel
theorem d_MO_look_15 : decode b_MO_look 15 = .ok (.if_icmp .le 9, 3) := by decide +kernel
theorem d_MO_look_18 : decode b_MO_look 18 = .ok (.ldc2_w 107, 3) := by decide +kernel
theorem d_MO_look_21 : decode b_MO_look 21 = .ok (.goto 14, 3) := by decide +kernel
theorem d_MO_look_24 : decode b_MO_look 24 = .ok (.aload_n 0, 1) := by decide +kernel
theorem d_MO_look_25 : decode b_MO_look 25 = .ok (.getfield 13, 3) := by decide +kernel
theorem d_MO_look_28 : decode b_MO_look 28 = .ok (.bipush 125, 2) := by decide +kernel
theorem d_MO_look_30 : decode b_MO_look 30 = .ok (.iload_n 1, 1) := by decide +kernel
theorem d_MO_look_31 : decode b_MO_look 31 = .ok (.imul, 1) := by decide +kernel
theorem d_MO_look_32 : decode b_MO_look 32 = .ok (.iload_n 2, 1) := by decide +kernel
theorem d_MO_look_33 : decode b_MO_look 33 = .ok (.iadd, 1) := by decide +kernel
theorem d_MO_look_34 : decode b_MO_look 34 = .ok (.laload, 1) := by decide +kernel
theorem d_MO_look_35 : decode b_MO_look 35 = .ok (.lreturn, 1) := by decide +kernel
theorem d_MO_next_0 : decode b_MO_next 0 = .ok (.aload_n 0, 1) := by decide +kernel
theorem d_MO_next_1 : decode b_MO_next 1 = .ok (.iload_n 1, 1) := by decide +kernel
theorem d_MO_next_2 : decode b_MO_next 2 = .ok (.invokevirtual 50, 3) := by decide +kernel
theorem d_MO_next_5 : decode b_MO_next 5 = .ok (.ifCond .eq 13, 3) := by decide +kernel
theorem d_MO_next_8 : decode b_MO_next 8 = .ok (.iload_n 2, 1) := by decide +kernel
theorem d_MO_next_9 : decode b_MO_next 9 = .ok (.ifCond .lt 9, 3) := by decide +kernel
theorem d_MO_next_12 : decode b_MO_next 12 = .ok (.iload_n 2, 1) := by decide +kernel
theorem d_MO_next_13 : decode b_MO_next 13 = .ok (.bipush 124, 2) := by decide +kernel
theorem d_MO_next_15 : decode b_MO_next 15 = .ok (.if_icmp .le 5, 3) := by decide +kernel
theorem d_MO_next_18 : decode b_MO_next 18 = .ok (.iconst (-1), 1) := by decide +kernel
theorem d_MO_next_19 : decode b_MO_next 19 = .ok (.ireturn, 1) := by decide +kernel
theorem d_MO_next_20 : decode b_MO_next 20 = .ok (.iload_n 2, 1) := by decide +kernel
theorem d_MO_next_21 : decode b_MO_next 21 = .ok (.iconst 1, 1) := by decide +kernel
theorem d_MO_next_22 : decode b_MO_next 22 = .ok (.iadd, 1) := by decide +kernel
theorem d_MO_next_23 : decode b_MO_next 23 = .ok (.istore_n 3, 1) := by decide +kernel
theorem d_MO_next_24 : decode b_MO_next 24 = .ok (.iload_n 3, 1) := by decide +kernel
theorem d_MO_next_25 : decode b_MO_next 25 = .ok (.bipush 125, 2) := by decide +kernel
theorem d_MO_next_27 : decode b_MO_next 27 = .ok (.if_icmp .ge 27, 3) := by decide +kernel
theorem d_MO_next_30 : decode b_MO_next 30 = .ok (.aload_n 0, 1) := by decide +kernel
theorem d_MO_next_31 : decode b_MO_next 31 = .ok (.getfield 13, 3) := by decide +kernel
theorem d_MO_next_34 : decode b_MO_next 34 = .ok (.bipush 125, 2) := by decide +kernel
theorem d_MO_next_36 : decode b_MO_next 36 = .ok (.iload_n 1, 1) := by decide +kernel
theorem d_MO_next_37 : decode b_MO_next 37 = .ok (.imul, 1) := by decide +kernel
theorem d_MO_next_38 : decode b_MO_next 38 = .ok (.iload_n 3, 1) := by decide +kernel
theorem d_MO_next_39 : decode b_MO_next 39 = .ok (.iadd, 1) := by decide +kernel
theorem d_MO_next_40 : decode b_MO_next 40 = .ok (.laload, 1) := by decide +kernel
theorem d_MO_next_41 : decode b_MO_next 41 = .ok (.ldc2_w 36, 3) := by decide +kernel
theorem d_MO_next_44 : decode b_MO_next 44 = .ok (.lcmp, 1) := by decide +kernel
theorem d_MO_next_45 : decode b_MO_next 45 = .ok (.ifCond .ne 9, 3) := by decide +kernel
theorem d_MO_next_48 : decode b_MO_next 48 = .ok (.iinc 3 1, 3) := by decide +kernel
theorem d_MO_next_51 : decode b_MO_next 51 = .ok (.goto (-27), 3) := by decide +kernel
theorem d_MO_next_54 : decode b_MO_next 54 = .ok (.iload_n 3, 1) := by decide +kernel
theorem d_MO_next_55 : decode b_MO_next 55 = .ok (.ireturn, 1) := by decide +kernel
theorem d_MO_layers_0 : decode b_MO_layers 0 = .ok (.aload_n 0, 1) := by decide +kernel
theorem d_MO_layers_1 : decode b_MO_layers 1 = .ok (.iload_n 1, 1) := by decide +kernel
theorem d_MO_layers_2 : decode b_MO_layers 2 = .ok (.invokevirtual 50, 3) := by decide +kernel
theorem d_MO_layers_5 : decode b_MO_layers 5 = .ok (.ifCond .eq 11, 3) := by decide +kernel
theorem d_MO_layers_8 : decode b_MO_layers 8 = .ok (.aload_n 0, 1) := by decide +kernel
theorem d_MO_layers_9 : decode b_MO_layers 9 = .ok (.iload_n 1, 1) := by decide +kernel
theorem d_MO_layers_10 : decode b_MO_layers 10 = .ok (.invokevirtual 115, 3) := by decide +kernel
theorem d_MO_layers_13 : decode b_MO_layers 13 = .ok (.goto 4, 3) := by decide +kernel
theorem d_MO_layers_16 : decode b_MO_layers 16 = .ok (.iconst (-1), 1) := by decide +kernel
theorem d_MO_layers_17 : decode b_MO_layers 17 = .ok (.ireturn, 1) := by decide +kernel
theorem d_MO_layerCount_0 : decode b_MO_layerCount 0 = .ok (.iconst 0, 1) := by decide +kernel
theorem d_MO_layerCount_1 : decode b_MO_layerCount 1 = .ok (.istore_n 2, 1) := by decide +kernel
theorem d_MO_layerCount_2 : decode b_MO_layerCount 2 = .ok (.iload_n 1, 1) := by decide +kernel
theorem d_MO_layerCount_3 : decode b_MO_layerCount 3 = .ok (.istore_n 3, 1) := by decide +kernel
theorem d_MO_layerCount_4 : decode b_MO_layerCount 4 = .ok (.iload_n 3, 1) := by decide +kernel
theorem d_MO_layerCount_5 : decode b_MO_layerCount 5 = .ok (.ifCond .eq 16, 3) := by decide +kernel
theorem d_MO_layerCount_8 : decode b_MO_layerCount 8 = .ok (.iinc 2 1, 3) := by decide +kernel
theorem d_MO_layerCount_11 : decode b_MO_layerCount 11 = .ok (.aload_n 0, 1) := by decide +kernel
theorem d_MO_layerCount_12 : decode b_MO_layerCount 12 = .ok (.getfield 7, 3) := by decide +kernel
theorem d_MO_layerCount_15 : decode b_MO_layerCount 15 = .ok (.iload_n 3, 1) := by decide +kernel
theorem d_MO_layerCount_16 : decode b_MO_layerCount 16 = .ok (.iaload, 1) := by decide +kernel
theorem d_MO_layerCount_17 : decode b_MO_layerCount 17 = .ok (.istore_n 3, 1) := by decide +kernel
theorem d_MO_layerCount_18 : decode b_MO_layerCount 18 = .ok (.goto (-14), 3) := by decide +kernel
theorem d_MO_layerCount_21 : decode b_MO_layerCount 21 = .ok (.iload_n 2, 1) := by decide +kernel
theorem d_MO_layerCount_22 : decode b_MO_layerCount 22 = .ok (.ireturn, 1) := by decide +kernel
theorem d_MO_entries_0 : decode b_MO_entries 0 = .ok (.aload_n 0, 1) := by decide +kernel
theorem d_MO_entries_1 : decode b_MO_entries 1 = .ok (.iload_n 1, 1) := by decide +kernel
theorem d_MO_entries_2 : decode b_MO_entries 2 = .ok (.invokevirtual 50, 3) := by decide +kernel
theorem d_MO_entries_5 : decode b_MO_entries 5 = .ok (.ifCond .eq 12, 3) := by decide +kernel
theorem d_MO_entries_8 : decode b_MO_entries 8 = .ok (.aload_n 0, 1) := by decide +kernel
theorem d_MO_entries_9 : decode b_MO_entries 9 = .ok (.iload_n 1, 1) := by decide +kernel
theorem d_MO_entries_10 : decode b_MO_entries 10 = .ok (.iload_n 2, 1) := by decide +kernel
theorem d_MO_entries_11 : decode b_MO_entries 11 = .ok (.invokevirtual 143, 3) := by decide +kernel
theorem d_MO_entries_14 : decode b_MO_entries 14 = .ok (.ifCond .ne 5, 3) := by decide +kernel
theorem d_MO_entries_17 : decode b_MO_entries 17 = .ok (.iconst (-1), 1) := by decide +kernel
theorem d_MO_entries_18 : decode b_MO_entries 18 = .ok (.ireturn, 1) := by decide +kernel
theorem d_MO_entries_19 : decode b_MO_entries 19 = .ok (.aload_n 0, 1) := by decide +kernel
theorem d_MO_entries_20 : decode b_MO_entries 20 = .ok (.aload_n 0, 1) := by decide +kernel
theorem d_MO_entries_21 : decode b_MO_entries 21 = .ok (.iload_n 1, 1) := by decide +kernel
theorem d_MO_entries_22 : decode b_MO_entries 22 = .ok (.iload_n 2, 1) := by decide +kernel
theorem d_MO_entries_23 : decode b_MO_entries 23 = .ok (.invokevirtual 143, 3) := by decide +kernel
theorem d_MO_entries_26 : decode b_MO_entries 26 = .ok (.invokevirtual 130, 3) := by decide +kernel
theorem d_MO_entries_29 : decode b_MO_entries 29 = .ok (.ireturn, 1) := by decide +kernel
theorem d_MO_owner_0 : decode b_MO_owner 0 = .ok (.aload_n 0, 1) := by decide +kernel
theorem d_MO_owner_1 : decode b_MO_owner 1 = .ok (.iload_n 1, 1) := by decide +kernel
theorem d_MO_owner_2 : decode b_MO_owner 2 = .ok (.invokevirtual 115, 3) := by decide +kernel
theorem d_MO_owner_5 : decode b_MO_owner 5 = .ok (.istore_n 3, 1) := by decide +kernel
theorem d_MO_owner_6 : decode b_MO_owner 6 = .ok (.iload_n 2, 1) := by decide +kernel
theorem d_MO_owner_7 : decode b_MO_owner 7 = .ok (.ifCond .lt 8, 3) := by decide +kernel
theorem d_MO_owner_10 : decode b_MO_owner 10 = .ok (.iload_n 2, 1) := by decide +kernel
theorem d_MO_owner_11 : decode b_MO_owner 11 = .ok (.iload_n 3, 1) := by decide +kernel
theorem d_MO_owner_12 : decode b_MO_owner 12 = .ok (.if_icmp .lt 5, 3) := by decide +kernel
theorem d_MO_owner_15 : decode b_MO_owner 15 = .ok (.iconst 0, 1) := by decide +kernel
theorem d_MO_owner_16 : decode b_MO_owner 16 = .ok (.ireturn, 1) := by decide +kernel
theorem d_MO_owner_17 : decode b_MO_owner 17 = .ok (.iload_n 1, 1) := by decide +kernel
theorem d_MO_owner_18 : decode b_MO_owner 18 = .ok (.istore 4, 2) := by decide +kernel
theorem d_MO_owner_20 : decode b_MO_owner 20 = .ok (.iload_n 3, 1) := by decide +kernel
theorem d_MO_owner_21 : decode b_MO_owner 21 = .ok (.iconst 1, 1) := by decide +kernel
theorem d_MO_owner_22 : decode b_MO_owner 22 = .ok (.isub, 1) := by decide +kernel
theorem d_MO_owner_23 : decode b_MO_owner 23 = .ok (.istore 5, 2) := by decide +kernel
theorem d_MO_owner_25 : decode b_MO_owner 25 = .ok (.iload 5, 2) := by decide +kernel
theorem d_MO_owner_27 : decode b_MO_owner 27 = .ok (.iload_n 2, 1) := by decide +kernel
theorem d_MO_owner_28 : decode b_MO_owner 28 = .ok (.if_icmp .le 18, 3) := by decide +kernel
theorem d_MO_owner_31 : decode b_MO_owner 31 = .ok (.aload_n 0, 1) := by decide +kernel
theorem d_MO_owner_32 : decode b_MO_owner 32 = .ok (.getfield 7, 3) := by decide +kernel
theorem d_MO_owner_35 : decode b_MO_owner 35 = .ok (.iload 4, 2) := by decide +kernel
theorem d_MO_owner_37 : decode b_MO_owner 37 = .ok (.iaload, 1) := by decide +kernel
theorem d_MO_owner_38 : decode b_MO_owner 38 = .ok (.istore 4, 2) := by decide +kernel
theorem d_MO_owner_40 : decode b_MO_owner 40 = .ok (.iinc 5 (-1), 3) := by decide +kernel
theorem d_MO_owner_43 : decode b_MO_owner 43 = .ok (.goto (-18), 3) := by decide +kernel
theorem d_MO_owner_46 : decode b_MO_owner 46 = .ok (.iload 4, 2) := by decide +kernel
theorem d_MO_owner_48 : decode b_MO_owner 48 = .ok (.ireturn, 1) := by decide +kernel
theorem d_MO_entryPath_0 : decode b_MO_entryPath 0 = .ok (.aload_n 0, 1) := by decide +kernel
theorem d_MO_entryPath_1 : decode b_MO_entryPath 1 = .ok (.iload_n 1, 1) := by decide +kernel
theorem d_MO_entryPath_2 : decode b_MO_entryPath 2 = .ok (.invokevirtual 50, 3) := by decide +kernel
theorem d_MO_entryPath_5 : decode b_MO_entryPath 5 = .ok (.ifCond .eq 16, 3) := by decide +kernel
theorem d_MO_entryPath_8 : decode b_MO_entryPath 8 = .ok (.aload_n 0, 1) := by decide +kernel
theorem d_MO_entryPath_9 : decode b_MO_entryPath 9 = .ok (.iload_n 1, 1) := by decide +kernel
theorem d_MO_entryPath_10 : decode b_MO_entryPath 10 = .ok (.iload_n 2, 1) := by decide +kernel
theorem d_MO_entryPath_11 : decode b_MO_entryPath 11 = .ok (.invokevirtual 143, 3) := by decide +kernel
theorem d_MO_entryPath_14 : decode b_MO_entryPath 14 = .ok (.ifCond .eq 7, 3) := by decide +kernel
theorem d_MO_entryPath_17 : decode b_MO_entryPath 17 = .ok (.iload_n 3, 1) := by decide +kernel
theorem d_MO_entryPath_18 : decode b_MO_entryPath 18 = .ok (.ifCond .ge 5, 3) := by decide +kernel
theorem d_MO_entryPath_21 : decode b_MO_entryPath 21 = .ok (.iconst (-1), 1) := by decide +kernel
theorem d_MO_entryPath_22 : decode b_MO_entryPath 22 = .ok (.ireturn, 1) := by decide +kernel
theorem d_MO_entryPath_23 : decode b_MO_entryPath 23 = .ok (.aload_n 0, 1) := by decide +kernel
theorem d_MO_entryPath_24 : decode b_MO_entryPath 24 = .ok (.iload_n 1, 1) := by decide +kernel
theorem d_MO_entryPath_25 : decode b_MO_entryPath 25 = .ok (.iload_n 2, 1) := by decide +kernel
theorem d_MO_entryPath_26 : decode b_MO_entryPath 26 = .ok (.invokevirtual 143, 3) := by decide +kernel
theorem d_MO_entryPath_29 : decode b_MO_entryPath 29 = .ok (.istore 4, 2) := by decide +kernel
theorem d_MO_entryPath_31 : decode b_MO_entryPath 31 = .ok (.iload_n 3, 1) := by decide +kernel
theorem d_MO_entryPath_32 : decode b_MO_entryPath 32 = .ok (.istore 5, 2) := by decide +kernel
theorem d_MO_entryPath_34 : decode b_MO_entryPath 34 = .ok (.iconst 1, 1) := by decide +kernel
theorem d_MO_entryPath_35 : decode b_MO_entryPath 35 = .ok (.istore 6, 2) := by decide +kernel
theorem d_MO_entryPath_37 : decode b_MO_entryPath 37 = .ok (.iload 6, 2) := by decide +kernel
theorem d_MO_entryPath_39 : decode b_MO_entryPath 39 = .ok (.bipush 125, 2) := by decide +kernel
theorem d_MO_entryPath_41 : decode b_MO_entryPath 41 = .ok (.if_icmp .ge 46, 3) := by decide +kernel
theorem d_MO_entryPath_44 : decode b_MO_entryPath 44 = .ok (.iload 6, 2) := by decide +kernel
theorem d_MO_entryPath_46 : decode b_MO_entryPath 46 = .ok (.invokestatic 46, 3) := by decide +kernel
theorem d_MO_entryPath_49 : decode b_MO_entryPath 49 = .ok (.ifCond .eq 32, 3) := by decide +kernel
theorem d_MO_entryPath_52 : decode b_MO_entryPath 52 = .ok (.aload_n 0, 1) := by decide +kernel
theorem d_MO_entryPath_53 : decode b_MO_entryPath 53 = .ok (.iload 4, 2) := by decide +kernel

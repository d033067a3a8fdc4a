theorem d_PA_isLegal_3 : decode b_PA_isLegal 3 = .ok (.if_icmp .lt 13, 3) := by decide +kernel
theorem d_PA_isLegal_6 : decode b_PA_isLegal 6 = .ok (.iload_n 0, 1) := by decide +kernel
theorem d_PA_isLegal_7 : decode b_PA_isLegal 7 = .ok (.bipush 125, 2) := by decide +kernel
theorem d_PA_isLegal_9 : decode b_PA_isLegal 9 = .ok (.if_icmp .ge 7, 3) := by decide +kernel
theorem d_PA_isLegal_12 : decode b_PA_isLegal 12 = .ok (.iconst 1, 1) := by decide +kernel
theorem d_PA_isLegal_13 : decode b_PA_isLegal 13 = .ok (.goto 4, 3) := by decide +kernel
theorem d_PA_isLegal_16 : decode b_PA_isLegal 16 = .ok (.iconst 0, 1) := by decide +kernel
theorem d_PA_isLegal_17 : decode b_PA_isLegal 17 = .ok (.istore_n 1, 1) := by decide +kernel
theorem d_PA_isLegal_18 : decode b_PA_isLegal 18 = .ok (.iload_n 0, 1) := by decide +kernel
theorem d_PA_isLegal_19 : decode b_PA_isLegal 19 = .ok (.iconst 5, 1) := by decide +kernel
theorem d_PA_isLegal_20 : decode b_PA_isLegal 20 = .ok (.idiv, 1) := by decide +kernel
theorem d_PA_isLegal_21 : decode b_PA_isLegal 21 = .ok (.iconst 5, 1) := by decide +kernel
theorem d_PA_isLegal_22 : decode b_PA_isLegal 22 = .ok (.irem, 1) := by decide +kernel
theorem d_PA_isLegal_23 : decode b_PA_isLegal 23 = .ok (.ifCond .eq 7, 3) := by decide +kernel
theorem d_PA_isLegal_26 : decode b_PA_isLegal 26 = .ok (.iconst 1, 1) := by decide +kernel
theorem d_PA_isLegal_27 : decode b_PA_isLegal 27 = .ok (.goto 4, 3) := by decide +kernel
theorem d_PA_isLegal_30 : decode b_PA_isLegal 30 = .ok (.iconst 0, 1) := by decide +kernel
theorem d_PA_isLegal_31 : decode b_PA_isLegal 31 = .ok (.istore_n 2, 1) := by decide +kernel
theorem d_PA_isLegal_32 : decode b_PA_isLegal 32 = .ok (.iload_n 0, 1) := by decide +kernel
theorem d_PA_isLegal_33 : decode b_PA_isLegal 33 = .ok (.iconst 5, 1) := by decide +kernel
theorem d_PA_isLegal_34 : decode b_PA_isLegal 34 = .ok (.irem, 1) := by decide +kernel
theorem d_PA_isLegal_35 : decode b_PA_isLegal 35 = .ok (.ifCond .eq 7, 3) := by decide +kernel
theorem d_PA_isLegal_38 : decode b_PA_isLegal 38 = .ok (.iconst 1, 1) := by decide +kernel
theorem d_PA_isLegal_39 : decode b_PA_isLegal 39 = .ok (.goto 4, 3) := by decide +kernel
theorem d_PA_isLegal_42 : decode b_PA_isLegal 42 = .ok (.iconst 0, 1) := by decide +kernel
theorem d_PA_isLegal_43 : decode b_PA_isLegal 43 = .ok (.istore_n 3, 1) := by decide +kernel
theorem d_PA_isLegal_44 : decode b_PA_isLegal 44 = .ok (.iload_n 1, 1) := by decide +kernel
theorem d_PA_isLegal_45 : decode b_PA_isLegal 45 = .ok (.ifCond .eq 15, 3) := by decide +kernel
theorem d_PA_isLegal_48 : decode b_PA_isLegal 48 = .ok (.iload_n 2, 1) := by decide +kernel
theorem d_PA_isLegal_49 : decode b_PA_isLegal 49 = .ok (.ifCond .ne 7, 3) := by decide +kernel
theorem d_PA_isLegal_52 : decode b_PA_isLegal 52 = .ok (.iload_n 3, 1) := by decide +kernel
theorem d_PA_isLegal_53 : decode b_PA_isLegal 53 = .ok (.ifCond .ne 7, 3) := by decide +kernel
theorem d_PA_isLegal_56 : decode b_PA_isLegal 56 = .ok (.iconst 1, 1) := by decide +kernel
theorem d_PA_isLegal_57 : decode b_PA_isLegal 57 = .ok (.goto 4, 3) := by decide +kernel
theorem d_PA_isLegal_60 : decode b_PA_isLegal 60 = .ok (.iconst 0, 1) := by decide +kernel
theorem d_PA_isLegal_61 : decode b_PA_isLegal 61 = .ok (.ireturn, 1) := by decide +kernel
theorem d_TR_writeFile_0 : decode b_TR_writeFile 0 = .ok (.aload_n 0, 1) := by decide +kernel
theorem d_TR_writeFile_1 : decode b_TR_writeFile 1 = .ok (.getfield 9, 3) := by decide +kernel
theorem d_TR_writeFile_4 : decode b_TR_writeFile 4 = .ok (.iload_n 1, 1) := by decide +kernel
theorem d_TR_writeFile_5 : decode b_TR_writeFile 5 = .ok (.laload, 1) := by decide +kernel
theorem d_TR_writeFile_6 : decode b_TR_writeFile 6 = .ok (.ldc2_w 23, 3) := by decide +kernel
theorem d_TR_writeFile_9 : decode b_TR_writeFile 9 = .ok (.lcmp, 1) := by decide +kernel
theorem d_TR_writeFile_10 : decode b_TR_writeFile 10 = .ok (.ifCond .eq 11, 3) := by decide +kernel
theorem d_TR_writeFile_13 : decode b_TR_writeFile 13 = .ok (.aload_n 0, 1) := by decide +kernel
theorem d_TR_writeFile_14 : decode b_TR_writeFile 14 = .ok (.iload_n 1, 1) := by decide +kernel
theorem d_TR_writeFile_15 : decode b_TR_writeFile 15 = .ok (.invokevirtual 50, 3) := by decide +kernel
theorem d_TR_writeFile_18 : decode b_TR_writeFile 18 = .ok (.ifCond .eq 5, 3) := by decide +kernel
theorem d_TR_writeFile_21 : decode b_TR_writeFile 21 = .ok (.iconst 0, 1) := by decide +kernel
theorem d_TR_writeFile_22 : decode b_TR_writeFile 22 = .ok (.ireturn, 1) := by decide +kernel
theorem d_TR_writeFile_23 : decode b_TR_writeFile 23 = .ok (.aload_n 0, 1) := by decide +kernel
theorem d_TR_writeFile_24 : decode b_TR_writeFile 24 = .ok (.iload_n 1, 1) := by decide +kernel
theorem d_TR_writeFile_25 : decode b_TR_writeFile 25 = .ok (.invokevirtual 53, 3) := by decide +kernel
theorem d_TR_writeFile_28 : decode b_TR_writeFile 28 = .ok (.aload_n 0, 1) := by decide +kernel
theorem d_TR_writeFile_29 : decode b_TR_writeFile 29 = .ok (.getfield 9, 3) := by decide +kernel
theorem d_TR_writeFile_32 : decode b_TR_writeFile 32 = .ok (.iload_n 1, 1) := by decide +kernel
theorem d_TR_writeFile_33 : decode b_TR_writeFile 33 = .ok (.iload_n 2, 1) := by decide +kernel
theorem d_TR_writeFile_34 : decode b_TR_writeFile 34 = .ok (.i2l, 1) := by decide +kernel
theorem d_TR_writeFile_35 : decode b_TR_writeFile 35 = .ok (.lastore, 1) := by decide +kernel
theorem d_TR_writeFile_36 : decode b_TR_writeFile 36 = .ok (.iconst 1, 1) := by decide +kernel
theorem d_TR_writeFile_37 : decode b_TR_writeFile 37 = .ok (.ireturn, 1) := by decide +kernel
theorem d_TR_liesBelowFile_0 : decode b_TR_liesBelowFile 0 = .ok (.iload_n 1, 1) := by decide +kernel
theorem d_TR_liesBelowFile_1 : decode b_TR_liesBelowFile 1 = .ok (.invokestatic 71, 3) := by decide +kernel
theorem d_TR_liesBelowFile_4 : decode b_TR_liesBelowFile 4 = .ok (.istore_n 2, 1) := by decide +kernel
theorem d_TR_liesBelowFile_5 : decode b_TR_liesBelowFile 5 = .ok (.aload_n 0, 1) := by decide +kernel
theorem d_TR_liesBelowFile_6 : decode b_TR_liesBelowFile 6 = .ok (.iload_n 2, 1) := by decide +kernel
theorem d_TR_liesBelowFile_7 : decode b_TR_liesBelowFile 7 = .ok (.invokevirtual 57, 3) := by decide +kernel
theorem d_TR_liesBelowFile_10 : decode b_TR_liesBelowFile 10 = .ok (.ifCond .ne 14, 3) := by decide +kernel
theorem d_TR_liesBelowFile_13 : decode b_TR_liesBelowFile 13 = .ok (.aload_n 0, 1) := by decide +kernel
theorem d_TR_liesBelowFile_14 : decode b_TR_liesBelowFile 14 = .ok (.iload_n 2, 1) := by decide +kernel
theorem d_TR_liesBelowFile_15 : decode b_TR_liesBelowFile 15 = .ok (.invokestatic 71, 3) := by decide +kernel
theorem d_TR_liesBelowFile_18 : decode b_TR_liesBelowFile 18 = .ok (.invokevirtual 57, 3) := by decide +kernel
theorem d_TR_liesBelowFile_21 : decode b_TR_liesBelowFile 21 = .ok (.ifCond .eq 7, 3) := by decide +kernel
theorem d_TR_liesBelowFile_24 : decode b_TR_liesBelowFile 24 = .ok (.iconst 1, 1) := by decide +kernel
theorem d_TR_liesBelowFile_25 : decode b_TR_liesBelowFile 25 = .ok (.goto 4, 3) := by decide +kernel
theorem d_TR_liesBelowFile_28 : decode b_TR_liesBelowFile 28 = .ok (.iconst 0, 1) := by decide +kernel
theorem d_TR_liesBelowFile_29 : decode b_TR_liesBelowFile 29 = .ok (.ireturn, 1) := by decide +kernel
theorem d_PA_parent_0 : decode b_PA_parent 0 = .ok (.iload_n 0, 1) := by decide +kernel
theorem d_PA_parent_1 : decode b_PA_parent 1 = .ok (.invokestatic 9, 3) := by decide +kernel
theorem d_PA_parent_4 : decode b_PA_parent 4 = .ok (.lookupswitch 41 #[(2, 28), (3, 35)], 28) := by decide +kernel
theorem d_PA_parent_32 : decode b_PA_parent 32 = .ok (.iload_n 0, 1) := by decide +kernel
theorem d_PA_parent_33 : decode b_PA_parent 33 = .ok (.iload_n 0, 1) := by decide +kernel
theorem d_PA_parent_34 : decode b_PA_parent 34 = .ok (.bipush 25, 2) := by decide +kernel
theorem d_PA_parent_36 : decode b_PA_parent 36 = .ok (.irem, 1) := by decide +kernel
theorem d_PA_parent_37 : decode b_PA_parent 37 = .ok (.isub, 1) := by decide +kernel
theorem d_PA_parent_38 : decode b_PA_parent 38 = .ok (.ireturn, 1) := by decide +kernel
theorem d_PA_parent_39 : decode b_PA_parent 39 = .ok (.iload_n 0, 1) := by decide +kernel
theorem d_PA_parent_40 : decode b_PA_parent 40 = .ok (.iload_n 0, 1) := by decide +kernel
theorem d_PA_parent_41 : decode b_PA_parent 41 = .ok (.iconst 5, 1) := by decide +kernel
theorem d_PA_parent_42 : decode b_PA_parent 42 = .ok (.irem, 1) := by decide +kernel
theorem d_PA_parent_43 : decode b_PA_parent 43 = .ok (.isub, 1) := by decide +kernel
theorem d_PA_parent_44 : decode b_PA_parent 44 = .ok (.ireturn, 1) := by decide +kernel
theorem d_PA_parent_45 : decode b_PA_parent 45 = .ok (.iconst 0, 1) := by decide +kernel
theorem d_PA_parent_46 : decode b_PA_parent 46 = .ok (.ireturn, 1) := by decide +kernel
theorem d_PA_names_0 : decode b_PA_names 0 = .ok (.iload_n 0, 1) := by decide +kernel
theorem d_PA_names_1 : decode b_PA_names 1 = .ok (.ifCond .ne 5, 3) := by decide +kernel
theorem d_PA_names_4 : decode b_PA_names 4 = .ok (.iconst 0, 1) := by decide +kernel
theorem d_PA_names_5 : decode b_PA_names 5 = .ok (.ireturn, 1) := by decide +kernel
theorem d_PA_names_6 : decode b_PA_names 6 = .ok (.iload_n 0, 1) := by decide +kernel
theorem d_PA_names_7 : decode b_PA_names 7 = .ok (.bipush 25, 2) := by decide +kernel
theorem d_PA_names_9 : decode b_PA_names 9 = .ok (.irem, 1) := by decide +kernel
theorem d_PA_names_10 : decode b_PA_names 10 = .ok (.ifCond .ne 5, 3) := by decide +kernel
theorem d_PA_names_13 : decode b_PA_names 13 = .ok (.iconst 1, 1) := by decide +kernel
theorem d_PA_names_14 : decode b_PA_names 14 = .ok (.ireturn, 1) := by decide +kernel
theorem d_PA_names_15 : decode b_PA_names 15 = .ok (.iload_n 0, 1) := by decide +kernel
theorem d_PA_names_16 : decode b_PA_names 16 = .ok (.iconst 5, 1) := by decide +kernel
theorem d_PA_names_17 : decode b_PA_names 17 = .ok (.irem, 1) := by decide +kernel
theorem d_PA_names_18 : decode b_PA_names 18 = .ok (.ifCond .ne 7, 3) := by decide +kernel
theorem d_PA_names_21 : decode b_PA_names 21 = .ok (.iconst 2, 1) := by decide +kernel
theorem d_PA_names_22 : decode b_PA_names 22 = .ok (.goto 4, 3) := by decide +kernel
theorem d_PA_names_25 : decode b_PA_names 25 = .ok (.iconst 3, 1) := by decide +kernel
theorem d_PA_names_26 : decode b_PA_names 26 = .ok (.ireturn, 1) := by decide +kernel
theorem d_TR_isFile_0 : decode b_TR_isFile 0 = .ok (.aload_n 0, 1) := by decide +kernel
theorem d_TR_isFile_1 : decode b_TR_isFile 1 = .ok (.getfield 9, 3) := by decide +kernel
theorem d_TR_isFile_4 : decode b_TR_isFile 4 = .ok (.iload_n 1, 1) := by decide +kernel
theorem d_TR_isFile_5 : decode b_TR_isFile 5 = .ok (.laload, 1) := by decide +kernel
theorem d_TR_isFile_6 : decode b_TR_isFile 6 = .ok (.ldc2_w 15, 3) := by decide +kernel
theorem d_TR_isFile_9 : decode b_TR_isFile 9 = .ok (.lcmp, 1) := by decide +kernel
theorem d_TR_isFile_10 : decode b_TR_isFile 10 = .ok (.ifCond .eq 20, 3) := by decide +kernel
theorem d_TR_isFile_13 : decode b_TR_isFile 13 = .ok (.aload_n 0, 1) := by decide +kernel
theorem d_TR_isFile_14 : decode b_TR_isFile 14 = .ok (.getfield 9, 3) := by decide +kernel
theorem d_TR_isFile_17 : decode b_TR_isFile 17 = .ok (.iload_n 1, 1) := by decide +kernel
theorem d_TR_isFile_18 : decode b_TR_isFile 18 = .ok (.laload, 1) := by decide +kernel
theorem d_TR_isFile_19 : decode b_TR_isFile 19 = .ok (.ldc2_w 23, 3) := by decide +kernel
theorem d_TR_isFile_22 : decode b_TR_isFile 22 = .ok (.lcmp, 1) := by decide +kernel
theorem d_TR_isFile_23 : decode b_TR_isFile 23 = .ok (.ifCond .eq 7, 3) := by decide +kernel
theorem d_TR_isFile_26 : decode b_TR_isFile 26 = .ok (.iconst 1, 1) := by decide +kernel
theorem d_TR_isFile_27 : decode b_TR_isFile 27 = .ok (.goto 4, 3) := by decide +kernel
theorem d_TR_isFile_30 : decode b_TR_isFile 30 = .ok (.iconst 0, 1) := by decide +kernel
theorem d_TR_isFile_31 : decode b_TR_isFile 31 = .ok (.ireturn, 1) := by decide +kernel
theorem d_TR_makeAllAbove_0 : decode b_TR_makeAllAbove 0 = .ok (.iload_n 1, 1) := by decide +kernel
theorem d_TR_makeAllAbove_1 : decode b_TR_makeAllAbove 1 = .ok (.invokestatic 71, 3) := by decide +kernel
theorem d_TR_makeAllAbove_4 : decode b_TR_makeAllAbove 4 = .ok (.istore_n 2, 1) := by decide +kernel
theorem d_TR_makeAllAbove_5 : decode b_TR_makeAllAbove 5 = .ok (.aload_n 0, 1) := by decide +kernel
theorem d_TR_makeAllAbove_6 : decode b_TR_makeAllAbove 6 = .ok (.getfield 9, 3) := by decide +kernel
theorem d_TR_makeAllAbove_9 : decode b_TR_makeAllAbove 9 = .ok (.iload_n 2, 1) := by decide +kernel
theorem d_TR_makeAllAbove_10 : decode b_TR_makeAllAbove 10 = .ok (.ldc2_w 23, 3) := by decide +kernel
theorem d_TR_makeAllAbove_13 : decode b_TR_makeAllAbove 13 = .ok (.lastore, 1) := by decide +kernel
theorem d_TR_makeAllAbove_14 : decode b_TR_makeAllAbove 14 = .ok (.aload_n 0, 1) := by decide +kernel
theorem d_TR_makeAllAbove_15 : decode b_TR_makeAllAbove 15 = .ok (.getfield 9, 3) := by decide +kernel
theorem d_TR_makeAllAbove_18 : decode b_TR_makeAllAbove 18 = .ok (.iload_n 2, 1) := by decide +kernel
theorem d_TR_makeAllAbove_19 : decode b_TR_makeAllAbove 19 = .ok (.invokestatic 71, 3) := by decide +kernel
theorem d_TR_makeAllAbove_22 : decode b_TR_makeAllAbove 22 = .ok (.ldc2_w 23, 3) := by decide +kernel
theorem d_TR_makeAllAbove_25 : decode b_TR_makeAllAbove 25 = .ok (.lastore, 1) := by decide +kernel
theorem d_TR_makeAllAbove_26 : decode b_TR_makeAllAbove 26 = .ok (.return_, 1) := by decide +kernel
theorem d_TR_makeDirectory_0 : decode b_TR_makeDirectory 0 = .ok (.aload_n 0, 1) := by decide +kernel
theorem d_TR_makeDirectory_1 : decode b_TR_makeDirectory 1 = .ok (.iload_n 1, 1) := by decide +kernel
theorem d_TR_makeDirectory_2 : decode b_TR_makeDirectory 2 = .ok (.invokevirtual 57, 3) := by decide +kernel
theorem d_TR_makeDirectory_5 : decode b_TR_makeDirectory 5 = .ok (.ifCond .ne 11, 3) := by decide +kernel
theorem d_TR_makeDirectory_8 : decode b_TR_makeDirectory 8 = .ok (.aload_n 0, 1) := by decide +kernel
theorem d_TR_makeDirectory_9 : decode b_TR_makeDirectory 9 = .ok (.iload_n 1, 1) := by decide +kernel
theorem d_TR_makeDirectory_10 : decode b_TR_makeDirectory 10 = .ok (.invokevirtual 50, 3) := by decide +kernel
theorem d_TR_makeDirectory_13 : decode b_TR_makeDirectory 13 = .ok (.ifCond .eq 5, 3) := by decide +kernel
theorem d_TR_makeDirectory_16 : decode b_TR_makeDirectory 16 = .ok (.iconst 0, 1) := by decide +kernel
theorem d_TR_makeDirectory_17 : decode b_TR_makeDirectory 17 = .ok (.ireturn, 1) := by decide +kernel
theorem d_TR_makeDirectory_18 : decode b_TR_makeDirectory 18 = .ok (.aload_n 0, 1) := by decide +kernel
theorem d_TR_makeDirectory_19 : decode b_TR_makeDirectory 19 = .ok (.iload_n 1, 1) := by decide +kernel
theorem d_TR_makeDirectory_20 : decode b_TR_makeDirectory 20 = .ok (.invokevirtual 53, 3) := by decide +kernel
theorem d_TR_makeDirectory_23 : decode b_TR_makeDirectory 23 = .ok (.aload_n 0, 1) := by decide +kernel
theorem d_TR_makeDirectory_24 : decode b_TR_makeDirectory 24 = .ok (.getfield 9, 3) := by decide +kernel
theorem d_TR_makeDirectory_27 : decode b_TR_makeDirectory 27 = .ok (.iload_n 1, 1) := by decide +kernel
theorem d_TR_makeDirectory_28 : decode b_TR_makeDirectory 28 = .ok (.ldc2_w 23, 3) := by decide +kernel
theorem d_TR_makeDirectory_31 : decode b_TR_makeDirectory 31 = .ok (.lastore, 1) := by decide +kernel
theorem d_TR_makeDirectory_32 : decode b_TR_makeDirectory 32 = .ok (.iconst 1, 1) := by decide +kernel
theorem d_TR_makeDirectory_33 : decode b_TR_makeDirectory 33 = .ok (.ireturn, 1) := by decide +kernel
theorem d_TR_removeAll_0 : decode b_TR_removeAll 0 = .ok (.aload_n 0, 1) := by decide +kernel
theorem d_TR_removeAll_1 : decode b_TR_removeAll 1 = .ok (.getfield 9, 3) := by decide +kernel
theorem d_TR_removeAll_4 : decode b_TR_removeAll 4 = .ok (.iload_n 1, 1) := by decide +kernel
theorem d_TR_removeAll_5 : decode b_TR_removeAll 5 = .ok (.laload, 1) := by decide +kernel
theorem d_TR_removeAll_6 : decode b_TR_removeAll 6 = .ok (.ldc2_w 15, 3) := by decide +kernel
theorem d_TR_removeAll_9 : decode b_TR_removeAll 9 = .ok (.lcmp, 1) := by decide +kernel
theorem d_TR_removeAll_10 : decode b_TR_removeAll 10 = .ok (.ifCond .ne 5, 3) := by decide +kernel
theorem d_TR_removeAll_13 : decode b_TR_removeAll 13 = .ok (.iconst 0, 1) := by decide +kernel
theorem d_TR_removeAll_14 : decode b_TR_removeAll 14 = .ok (.ireturn, 1) := by decide +kernel
theorem d_TR_removeAll_15 : decode b_TR_removeAll 15 = .ok (.iload_n 1, 1) := by decide +kernel
theorem d_TR_removeAll_16 : decode b_TR_removeAll 16 = .ok (.invokestatic 60, 3) := by decide +kernel
theorem d_TR_removeAll_19 : decode b_TR_removeAll 19 = .ok (.istore_n 2, 1) := by decide +kernel
theorem d_TR_removeAll_20 : decode b_TR_removeAll 20 = .ok (.iload_n 1, 1) := by decide +kernel
theorem d_TR_removeAll_21 : decode b_TR_removeAll 21 = .ok (.istore_n 3, 1) := by decide +kernel
theorem d_TR_removeAll_22 : decode b_TR_removeAll 22 = .ok (.iload_n 3, 1) := by decide +kernel
theorem d_TR_removeAll_23 : decode b_TR_removeAll 23 = .ok (.iload_n 2, 1) := by decide +kernel
theorem d_TR_removeAll_24 : decode b_TR_removeAll 24 = .ok (.if_icmp .ge 18, 3) := by decide +kernel
theorem d_TR_removeAll_27 : decode b_TR_removeAll 27 = .ok (.aload_n 0, 1) := by decide +kernel
theorem d_TR_removeAll_28 : decode b_TR_removeAll 28 = .ok (.getfield 9, 3) := by decide +kernel
theorem d_TR_removeAll_31 : decode b_TR_removeAll 31 = .ok (.iload_n 3, 1) := by decide +kernel
theorem d_TR_removeAll_32 : decode b_TR_removeAll 32 = .ok (.ldc2_w 15, 3) := by decide +kernel
theorem d_TR_removeAll_35 : decode b_TR_removeAll 35 = .ok (.lastore, 1) := by decide +kernel
theorem d_TR_removeAll_36 : decode b_TR_removeAll 36 = .ok (.iinc 3 1, 3) := by decide +kernel
theorem d_TR_removeAll_39 : decode b_TR_removeAll 39 = .ok (.goto (-17), 3) := by decide +kernel
theorem d_TR_removeAll_42 : decode b_TR_removeAll 42 = .ok (.iconst 1, 1) := by decide +kernel
theorem d_TR_removeAll_43 : decode b_TR_removeAll 43 = .ok (.ireturn, 1) := by decide +kernel
theorem d_PA_end_0 : decode b_PA_end 0 = .ok (.iload_n 0, 1) := by decide +kernel
theorem d_PA_end_1 : decode b_PA_end 1 = .ok (.invokestatic 9, 3) := by decide +kernel
theorem d_PA_end_4 : decode b_PA_end 4 = .ok (.lookupswitch 37 #[(1, 28), (2, 33)], 28) := by decide +kernel
theorem d_PA_end_32 : decode b_PA_end 32 = .ok (.iload_n 0, 1) := by decide +kernel
theorem d_PA_end_33 : decode b_PA_end 33 = .ok (.bipush 25, 2) := by decide +kernel
theorem d_PA_end_35 : decode b_PA_end 35 = .ok (.iadd, 1) := by decide +kernel
theorem d_PA_end_36 : decode b_PA_end 36 = .ok (.ireturn, 1) := by decide +kernel
theorem d_PA_end_37 : decode b_PA_end 37 = .ok (.iload_n 0, 1) := by decide +kernel
theorem d_PA_end_38 : decode b_PA_end 38 = .ok (.iconst 5, 1) := by decide +kernel
theorem d_PA_end_39 : decode b_PA_end 39 = .ok (.iadd, 1) := by decide +kernel
theorem d_PA_end_40 : decode b_PA_end 40 = .ok (.ireturn, 1) := by decide +kernel
theorem d_PA_end_41 : decode b_PA_end 41 = .ok (.iload_n 0, 1) := by decide +kernel
theorem d_PA_end_42 : decode b_PA_end 42 = .ok (.iconst 1, 1) := by decide +kernel
theorem d_PA_end_43 : decode b_PA_end 43 = .ok (.iadd, 1) := by decide +kernel
theorem d_PA_end_44 : decode b_PA_end 44 = .ok (.ireturn, 1) := by decide +kernel
theorem d_TR_copyAll_0 : decode b_TR_copyAll 0 = .ok (.aload_n 0, 1) := by decide +kernel
theorem d_TR_copyAll_1 : decode b_TR_copyAll 1 = .ok (.iload_n 1, 1) := by decide +kernel
theorem d_TR_copyAll_2 : decode b_TR_copyAll 2 = .ok (.iload_n 2, 1) := by decide +kernel
theorem d_TR_copyAll_3 : decode b_TR_copyAll 3 = .ok (.invokevirtual 64, 3) := by decide +kernel
theorem d_TR_copyAll_6 : decode b_TR_copyAll 6 = .ok (.ifCond .ne 5, 3) := by decide +kernel
theorem d_TR_copyAll_9 : decode b_TR_copyAll 9 = .ok (.iconst 0, 1) := by decide +kernel
theorem d_TR_copyAll_10 : decode b_TR_copyAll 10 = .ok (.ireturn, 1) := by decide +kernel
theorem d_TR_copyAll_11 : decode b_TR_copyAll 11 = .ok (.iload_n 1, 1) := by decide +kernel
theorem d_TR_copyAll_12 : decode b_TR_copyAll 12 = .ok (.invokestatic 60, 3) := by decide +kernel
theorem d_TR_copyAll_15 : decode b_TR_copyAll 15 = .ok (.istore_n 3, 1) := by decide +kernel
theorem d_TR_copyAll_16 : decode b_TR_copyAll 16 = .ok (.iload_n 1, 1) := by decide +kernel
theorem d_TR_copyAll_17 : decode b_TR_copyAll 17 = .ok (.istore 4, 2) := by decide +kernel
theorem d_TR_copyAll_19 : decode b_TR_copyAll 19 = .ok (.iload 4, 2) := by decide +kernel
theorem d_TR_copyAll_21 : decode b_TR_copyAll 21 = .ok (.iload_n 3, 1) := by decide +kernel
theorem d_TR_copyAll_22 : decode b_TR_copyAll 22 = .ok (.if_icmp .ge 42, 3) := by decide +kernel
theorem d_TR_copyAll_25 : decode b_TR_copyAll 25 = .ok (.aload_n 0, 1) := by decide +kernel
theorem d_TR_copyAll_26 : decode b_TR_copyAll 26 = .ok (.getfield 9, 3) := by decide +kernel
theorem d_TR_copyAll_29 : decode b_TR_copyAll 29 = .ok (.iload 4, 2) := by decide +kernel
theorem d_TR_copyAll_31 : decode b_TR_copyAll 31 = .ok (.laload, 1) := by decide +kernel
theorem d_TR_copyAll_32 : decode b_TR_copyAll 32 = .ok (.ldc2_w 15, 3) := by decide +kernel
theorem d_TR_copyAll_35 : decode b_TR_copyAll 35 = .ok (.lcmp, 1) := by decide +kernel
theorem d_TR_copyAll_36 : decode b_TR_copyAll 36 = .ok (.ifCond .eq 22, 3) := by decide +kernel
theorem d_TR_copyAll_39 : decode b_TR_copyAll 39 = .ok (.aload_n 0, 1) := by decide +kernel
theorem d_TR_copyAll_40 : decode b_TR_copyAll 40 = .ok (.getfield 9, 3) := by decide +kernel
theorem d_TR_copyAll_43 : decode b_TR_copyAll 43 = .ok (.iload 4, 2) := by decide +kernel
theorem d_TR_copyAll_45 : decode b_TR_copyAll 45 = .ok (.iload_n 1, 1) := by decide +kernel
theorem d_TR_copyAll_46 : decode b_TR_copyAll 46 = .ok (.iload_n 2, 1) := by decide +kernel
theorem d_TR_copyAll_47 : decode b_TR_copyAll 47 = .ok (.invokestatic 67, 3) := by decide +kernel
theorem d_TR_copyAll_50 : decode b_TR_copyAll 50 = .ok (.aload_n 0, 1) := by decide +kernel
theorem d_TR_copyAll_51 : decode b_TR_copyAll 51 = .ok (.getfield 9, 3) := by decide +kernel
theorem d_TR_copyAll_54 : decode b_TR_copyAll 54 = .ok (.iload 4, 2) := by decide +kernel
theorem d_TR_copyAll_56 : decode b_TR_copyAll 56 = .ok (.laload, 1) := by decide +kernel
theorem d_TR_copyAll_57 : decode b_TR_copyAll 57 = .ok (.lastore, 1) := by decide +kernel
theorem d_TR_copyAll_58 : decode b_TR_copyAll 58 = .ok (.iinc 4 1, 3) := by decide +kernel
theorem d_TR_copyAll_61 : decode b_TR_copyAll 61 = .ok (.goto (-42), 3) := by decide +kernel
theorem d_TR_copyAll_64 : decode b_TR_copyAll 64 = .ok (.iconst 1, 1) := by decide +kernel
theorem d_TR_copyAll_65 : decode b_TR_copyAll 65 = .ok (.ireturn, 1) := by decide +kernel
theorem d_TR_mayCopy_0 : decode b_TR_mayCopy 0 = .ok (.iload_n 2, 1) := by decide +kernel
theorem d_TR_mayCopy_1 : decode b_TR_mayCopy 1 = .ok (.invokestatic 31, 3) := by decide +kernel
theorem d_TR_mayCopy_4 : decode b_TR_mayCopy 4 = .ok (.ifCond .eq 29, 3) := by decide +kernel
theorem d_TR_mayCopy_7 : decode b_TR_mayCopy 7 = .ok (.aload_n 0, 1) := by decide +kernel
theorem d_TR_mayCopy_8 : decode b_TR_mayCopy 8 = .ok (.getfield 9, 3) := by decide +kernel
theorem d_TR_mayCopy_11 : decode b_TR_mayCopy 11 = .ok (.iload_n 1, 1) := by decide +kernel
theorem d_TR_mayCopy_12 : decode b_TR_mayCopy 12 = .ok (.laload, 1) := by decide +kernel
theorem d_TR_mayCopy_13 : decode b_TR_mayCopy 13 = .ok (.ldc2_w 15, 3) := by decide +kernel
theorem d_TR_mayCopy_16 : decode b_TR_mayCopy 16 = .ok (.lcmp, 1) := by decide +kernel
theorem d_TR_mayCopy_17 : decode b_TR_mayCopy 17 = .ok (.ifCond .eq 16, 3) := by decide +kernel
theorem d_TR_mayCopy_20 : decode b_TR_mayCopy 20 = .ok (.aload_n 0, 1) := by decide +kernel
theorem d_TR_mayCopy_21 : decode b_TR_mayCopy 21 = .ok (.getfield 9, 3) := by decide +kernel
theorem d_TR_mayCopy_24 : decode b_TR_mayCopy 24 = .ok (.iload_n 2, 1) := by decide +kernel
theorem d_TR_mayCopy_25 : decode b_TR_mayCopy 25 = .ok (.laload, 1) := by decide +kernel
theorem d_TR_mayCopy_26 : decode b_TR_mayCopy 26 = .ok (.ldc2_w 15, 3) := by decide +kernel
theorem d_TR_mayCopy_29 : decode b_TR_mayCopy 29 = .ok (.lcmp, 1) := by decide +kernel
theorem d_TR_mayCopy_30 : decode b_TR_mayCopy 30 = .ok (.ifCond .eq 5, 3) := by decide +kernel
theorem d_TR_mayCopy_33 : decode b_TR_mayCopy 33 = .ok (.iconst 0, 1) := by decide +kernel
theorem d_TR_mayCopy_34 : decode b_TR_mayCopy 34 = .ok (.ireturn, 1) := by decide +kernel
theorem d_TR_mayCopy_35 : decode b_TR_mayCopy 35 = .ok (.iload_n 2, 1) := by decide +kernel
theorem d_TR_mayCopy_36 : decode b_TR_mayCopy 36 = .ok (.iload_n 1, 1) := by decide +kernel
theorem d_TR_mayCopy_37 : decode b_TR_mayCopy 37 = .ok (.if_icmp .lt 15, 3) := by decide +kernel
theorem d_TR_mayCopy_40 : decode b_TR_mayCopy 40 = .ok (.iload_n 2, 1) := by decide +kernel
theorem d_TR_mayCopy_41 : decode b_TR_mayCopy 41 = .ok (.iload_n 1, 1) := by decide +kernel
theorem d_TR_mayCopy_42 : decode b_TR_mayCopy 42 = .ok (.invokestatic 60, 3) := by decide +kernel
theorem d_TR_mayCopy_45 : decode b_TR_mayCopy 45 = .ok (.if_icmp .ge 7, 3) := by decide +kernel
theorem d_TR_mayCopy_48 : decode b_TR_mayCopy 48 = .ok (.iconst 1, 1) := by decide +kernel
theorem d_TR_mayCopy_49 : decode b_TR_mayCopy 49 = .ok (.goto 4, 3) := by decide +kernel
theorem d_TR_mayCopy_52 : decode b_TR_mayCopy 52 = .ok (.iconst 0, 1) := by decide +kernel
theorem d_TR_mayCopy_53 : decode b_TR_mayCopy 53 = .ok (.istore_n 3, 1) := by decide +kernel
theorem d_TR_mayCopy_54 : decode b_TR_mayCopy 54 = .ok (.iload_n 3, 1) := by decide +kernel
theorem d_TR_mayCopy_55 : decode b_TR_mayCopy 55 = .ok (.ifCond .ne 32, 3) := by decide +kernel
theorem d_TR_mayCopy_58 : decode b_TR_mayCopy 58 = .ok (.aload_n 0, 1) := by decide +kernel
theorem d_TR_mayCopy_59 : decode b_TR_mayCopy 59 = .ok (.getfield 9, 3) := by decide +kernel
theorem d_TR_mayCopy_62 : decode b_TR_mayCopy 62 = .ok (.iload_n 2, 1) := by decide +kernel
theorem d_TR_mayCopy_63 : decode b_TR_mayCopy 63 = .ok (.invokestatic 71, 3) := by decide +kernel
theorem d_TR_mayCopy_66 : decode b_TR_mayCopy 66 = .ok (.laload, 1) := by decide +kernel
theorem d_TR_mayCopy_67 : decode b_TR_mayCopy 67 = .ok (.ldc2_w 23, 3) := by decide +kernel
theorem d_TR_mayCopy_70 : decode b_TR_mayCopy 70 = .ok (.lcmp, 1) := by decide +kernel
theorem d_TR_mayCopy_71 : decode b_TR_mayCopy 71 = .ok (.ifCond .ne 16, 3) := by decide +kernel
theorem d_TR_mayCopy_74 : decode b_TR_mayCopy 74 = .ok (.aload_n 0, 1) := by decide +kernel
theorem d_TR_mayCopy_75 : decode b_TR_mayCopy 75 = .ok (.iload_n 1, 1) := by decide +kernel
theorem d_TR_mayCopy_76 : decode b_TR_mayCopy 76 = .ok (.iload_n 2, 1) := by decide +kernel
theorem d_TR_mayCopy_77 : decode b_TR_mayCopy 77 = .ok (.invokevirtual 74, 3) := by decide +kernel
theorem d_TR_mayCopy_80 : decode b_TR_mayCopy 80 = .ok (.ifCond .eq 7, 3) := by decide +kernel
theorem d_TR_mayCopy_83 : decode b_TR_mayCopy 83 = .ok (.iconst 1, 1) := by decide +kernel
theorem d_TR_mayCopy_84 : decode b_TR_mayCopy 84 = .ok (.goto 4, 3) := by decide +kernel
theorem d_TR_mayCopy_87 : decode b_TR_mayCopy 87 = .ok (.iconst 0, 1) := by decide +kernel
theorem d_TR_mayCopy_88 : decode b_TR_mayCopy 88 = .ok (.ireturn, 1) := by decide +kernel
theorem d_TR_fitsAt_0 : decode b_TR_fitsAt 0 = .ok (.iload_n 1, 1) := by decide +kernel
theorem d_TR_fitsAt_1 : decode b_TR_fitsAt 1 = .ok (.invokestatic 60, 3) := by decide +kernel
theorem d_TR_fitsAt_4 : decode b_TR_fitsAt 4 = .ok (.istore_n 3, 1) := by decide +kernel
theorem d_TR_fitsAt_5 : decode b_TR_fitsAt 5 = .ok (.iload_n 1, 1) := by decide +kernel
theorem d_TR_fitsAt_6 : decode b_TR_fitsAt 6 = .ok (.istore 4, 2) := by decide +kernel
theorem d_TR_fitsAt_8 : decode b_TR_fitsAt 8 = .ok (.iload 4, 2) := by decide +kernel
theorem d_TR_fitsAt_10 : decode b_TR_fitsAt 10 = .ok (.iload_n 3, 1) := by decide +kernel
theorem d_TR_fitsAt_11 : decode b_TR_fitsAt 11 = .ok (.if_icmp .ge 36, 3) := by decide +kernel
theorem d_TR_fitsAt_14 : decode b_TR_fitsAt 14 = .ok (.aload_n 0, 1) := by decide +kernel
theorem d_TR_fitsAt_15 : decode b_TR_fitsAt 15 = .ok (.getfield 9, 3) := by decide +kernel
theorem d_TR_fitsAt_18 : decode b_TR_fitsAt 18 = .ok (.iload 4, 2) := by decide +kernel
theorem d_TR_fitsAt_20 : decode b_TR_fitsAt 20 = .ok (.laload, 1) := by decide +kernel
theorem d_TR_fitsAt_21 : decode b_TR_fitsAt 21 = .ok (.ldc2_w 15, 3) := by decide +kernel
theorem d_TR_fitsAt_24 : decode b_TR_fitsAt 24 = .ok (.lcmp, 1) := by decide +kernel
theorem d_TR_fitsAt_25 : decode b_TR_fitsAt 25 = .ok (.ifCond .eq 16, 3) := by decide +kernel
theorem d_TR_fitsAt_28 : decode b_TR_fitsAt 28 = .ok (.iload 4, 2) := by decide +kernel
theorem d_TR_fitsAt_30 : decode b_TR_fitsAt 30 = .ok (.iload_n 1, 1) := by decide +kernel
theorem d_TR_fitsAt_31 : decode b_TR_fitsAt 31 = .ok (.iload_n 2, 1) := by decide +kernel
theorem d_TR_fitsAt_32 : decode b_TR_fitsAt 32 = .ok (.invokestatic 77, 3) := by decide +kernel
theorem d_TR_fitsAt_35 : decode b_TR_fitsAt 35 = .ok (.iconst 3, 1) := by decide +kernel
theorem d_TR_fitsAt_36 : decode b_TR_fitsAt 36 = .ok (.if_icmp .le 5, 3) := by decide +kernel
theorem d_TR_fitsAt_39 : decode b_TR_fitsAt 39 = .ok (.iconst 0, 1) := by decide +kernel
theorem d_TR_fitsAt_40 : decode b_TR_fitsAt 40 = .ok (.ireturn, 1) := by decide +kernel
theorem d_TR_fitsAt_41 : decode b_TR_fitsAt 41 = .ok (.iinc 4 1, 3) := by decide +kernel
theorem d_TR_fitsAt_44 : decode b_TR_fitsAt 44 = .ok (.goto (-36), 3) := by decide +kernel
theorem d_TR_fitsAt_47 : decode b_TR_fitsAt 47 = .ok (.iconst 1, 1) := by decide +kernel
theorem d_TR_fitsAt_48 : decode b_TR_fitsAt 48 = .ok (.ireturn, 1) := by decide +kernel
theorem d_PA_namesWhenPut_0 : decode b_PA_namesWhenPut 0 = .ok (.iload_n 0, 1) := by decide +kernel
theorem d_PA_namesWhenPut_1 : decode b_PA_namesWhenPut 1 = .ok (.invokestatic 9, 3) := by decide +kernel
theorem d_PA_namesWhenPut_4 : decode b_PA_namesWhenPut 4 = .ok (.iload_n 1, 1) := by decide +kernel
theorem d_PA_namesWhenPut_5 : decode b_PA_namesWhenPut 5 = .ok (.invokestatic 9, 3) := by decide +kernel
theorem d_PA_namesWhenPut_8 : decode b_PA_namesWhenPut 8 = .ok (.isub, 1) := by decide +kernel
theorem d_PA_namesWhenPut_9 : decode b_PA_namesWhenPut 9 = .ok (.iload_n 2, 1) := by decide +kernel
theorem d_PA_namesWhenPut_10 : decode b_PA_namesWhenPut 10 = .ok (.invokestatic 9, 3) := by decide +kernel
theorem d_PA_namesWhenPut_13 : decode b_PA_namesWhenPut 13 = .ok (.iadd, 1) := by decide +kernel
theorem d_PA_namesWhenPut_14 : decode b_PA_namesWhenPut 14 = .ok (.ireturn, 1) := by decide +kernel
theorem d_PA_whenPut_0 : decode b_PA_whenPut 0 = .ok (.iload_n 0, 1) := by decide +kernel
theorem d_PA_whenPut_1 : decode b_PA_whenPut 1 = .ok (.iload_n 1, 1) := by decide +kernel
theorem d_PA_whenPut_2 : decode b_PA_whenPut 2 = .ok (.isub, 1) := by decide +kernel
theorem d_PA_whenPut_3 : decode b_PA_whenPut 3 = .ok (.istore_n 3, 1) := by decide +kernel
theorem d_PA_whenPut_4 : decode b_PA_whenPut 4 = .ok (.iload_n 2, 1) := by decide +kernel
theorem d_PA_whenPut_5 : decode b_PA_whenPut 5 = .ok (.invokestatic 9, 3) := by decide +kernel
theorem d_PA_whenPut_8 : decode b_PA_whenPut 8 = .ok (.iload_n 1, 1) := by decide +kernel
theorem d_PA_whenPut_9 : decode b_PA_whenPut 9 = .ok (.invokestatic 9, 3) := by decide +kernel
theorem d_PA_whenPut_12 : decode b_PA_whenPut 12 = .ok (.isub, 1) := by decide +kernel
theorem d_PA_whenPut_13 : decode b_PA_whenPut 13 = .ok (.istore 4, 2) := by decide +kernel
theorem d_PA_whenPut_15 : decode b_PA_whenPut 15 = .ok (.iconst 0, 1) := by decide +kernel
theorem d_PA_whenPut_16 : decode b_PA_whenPut 16 = .ok (.istore 5, 2) := by decide +kernel
theorem d_PA_whenPut_18 : decode b_PA_whenPut 18 = .ok (.iload 5, 2) := by decide +kernel
theorem d_PA_whenPut_20 : decode b_PA_whenPut 20 = .ok (.iload 4, 2) := by decide +kernel
theorem d_PA_whenPut_22 : decode b_PA_whenPut 22 = .ok (.if_icmp .ge 13, 3) := by decide +kernel
theorem d_PA_whenPut_25 : decode b_PA_whenPut 25 = .ok (.iload_n 3, 1) := by decide +kernel
theorem d_PA_whenPut_26 : decode b_PA_whenPut 26 = .ok (.iconst 5, 1) := by decide +kernel
theorem d_PA_whenPut_27 : decode b_PA_whenPut 27 = .ok (.idiv, 1) := by decide +kernel
theorem d_PA_whenPut_28 : decode b_PA_whenPut 28 = .ok (.istore_n 3, 1) := by decide +kernel
theorem d_PA_whenPut_29 : decode b_PA_whenPut 29 = .ok (.iinc 5 1, 3) := by decide +kernel
theorem d_PA_whenPut_32 : decode b_PA_whenPut 32 = .ok (.goto (-14), 3) := by decide +kernel
theorem d_PA_whenPut_35 : decode b_PA_whenPut 35 = .ok (.iload 4, 2) := by decide +kernel
theorem d_PA_whenPut_37 : decode b_PA_whenPut 37 = .ok (.istore 5, 2) := by decide +kernel
theorem d_PA_whenPut_39 : decode b_PA_whenPut 39 = .ok (.iload 5, 2) := by decide +kernel
theorem d_PA_whenPut_41 : decode b_PA_whenPut 41 = .ok (.ifCond .ge 13, 3) := by decide +kernel
theorem d_PA_whenPut_44 : decode b_PA_whenPut 44 = .ok (.iload_n 3, 1) := by decide +kernel
theorem d_PA_whenPut_45 : decode b_PA_whenPut 45 = .ok (.iconst 5, 1) := by decide +kernel
theorem d_PA_whenPut_46 : decode b_PA_whenPut 46 = .ok (.imul, 1) := by decide +kernel
theorem d_PA_whenPut_47 : decode b_PA_whenPut 47 = .ok (.istore_n 3, 1) := by decide +kernel
theorem d_PA_whenPut_48 : decode b_PA_whenPut 48 = .ok (.iinc 5 1, 3) := by decide +kernel
theorem d_PA_whenPut_51 : decode b_PA_whenPut 51 = .ok (.goto (-12), 3) := by decide +kernel
theorem d_PA_whenPut_54 : decode b_PA_whenPut 54 = .ok (.iload_n 2, 1) := by decide +kernel
theorem d_PA_whenPut_55 : decode b_PA_whenPut 55 = .ok (.iload_n 3, 1) := by decide +kernel
theorem d_PA_whenPut_56 : decode b_PA_whenPut 56 = .ok (.iadd, 1) := by decide +kernel
theorem d_PA_whenPut_57 : decode b_PA_whenPut 57 = .ok (.ireturn, 1) := by decide +kernel
theorem d_IS_answerDraftOn_0 : decode b_IS_answerDraftOn 0 = .ok (.aload_n 0, 1) := by decide +kernel
theorem d_IS_answerDraftOn_1 : decode b_IS_answerDraftOn 1 = .ok (.getfield 32, 3) := by decide +kernel
theorem d_IS_answerDraftOn_4 : decode b_IS_answerDraftOn 4 = .ok (.aload_n 0, 1) := by decide +kernel
theorem d_IS_answerDraftOn_5 : decode b_IS_answerDraftOn 5 = .ok (.getfield 10, 3) := by decide +kernel
theorem d_IS_answerDraftOn_8 : decode b_IS_answerDraftOn 8 = .ok (.iload_n 1, 1) := by decide +kernel
theorem d_IS_answerDraftOn_9 : decode b_IS_answerDraftOn 9 = .ok (.invokevirtual 60, 3) := by decide +kernel
theorem d_IS_answerDraftOn_12 : decode b_IS_answerDraftOn 12 = .ok (.checkcast 44, 3) := by decide +kernel
theorem d_IS_answerDraftOn_15 : decode b_IS_answerDraftOn 15 = .ok (.getfield 64, 3) := by decide +kernel
theorem d_IS_answerDraftOn_18 : decode b_IS_answerDraftOn 18 = .ok (.invokevirtual 165, 3) := by decide +kernel
theorem d_IS_answerDraftOn_21 : decode b_IS_answerDraftOn 21 = .ok (.ifCond .eq 9, 3) := by decide +kernel
theorem d_IS_answerDraftOn_24 : decode b_IS_answerDraftOn 24 = .ok (.aload_n 0, 1) := by decide +kernel
theorem d_IS_answerDraftOn_25 : decode b_IS_answerDraftOn 25 = .ok (.iload_n 1, 1) := by decide +kernel
theorem d_IS_answerDraftOn_26 : decode b_IS_answerDraftOn 26 = .ok (.invokevirtual 169, 3) := by decide +kernel
theorem d_IS_answerDraftOn_29 : decode b_IS_answerDraftOn 29 = .ok (.ireturn, 1) := by decide +kernel
theorem d_IS_answerDraftOn_30 : decode b_IS_answerDraftOn 30 = .ok (.iconst 0, 1) := by decide +kernel
theorem d_IS_answerDraftOn_31 : decode b_IS_answerDraftOn 31 = .ok (.istore_n 2, 1) := by decide +kernel
theorem d_IS_answerDraftOn_32 : decode b_IS_answerDraftOn 32 = .ok (.iload_n 2, 1) := by decide +kernel
theorem d_IS_answerDraftOn_33 : decode b_IS_answerDraftOn 33 = .ok (.aload_n 0, 1) := by decide +kernel
theorem d_IS_answerDraftOn_34 : decode b_IS_answerDraftOn 34 = .ok (.getfield 10, 3) := by decide +kernel
theorem d_IS_answerDraftOn_37 : decode b_IS_answerDraftOn 37 = .ok (.invokevirtual 161, 3) := by decide +kernel
theorem d_IS_answerDraftOn_40 : decode b_IS_answerDraftOn 40 = .ok (.if_icmp .ge 57, 3) := by decide +kernel
theorem d_IS_answerDraftOn_43 : decode b_IS_answerDraftOn 43 = .ok (.aload_n 0, 1) := by decide +kernel
theorem d_IS_answerDraftOn_44 : decode b_IS_answerDraftOn 44 = .ok (.getfield 10, 3) := by decide +kernel
theorem d_IS_answerDraftOn_47 : decode b_IS_answerDraftOn 47 = .ok (.iload_n 2, 1) := by decide +kernel
theorem d_IS_answerDraftOn_48 : decode b_IS_answerDraftOn 48 = .ok (.invokevirtual 60, 3) := by decide +kernel
theorem d_IS_answerDraftOn_51 : decode b_IS_answerDraftOn 51 = .ok (.checkcast 44, 3) := by decide +kernel
theorem d_IS_answerDraftOn_54 : decode b_IS_answerDraftOn 54 = .ok (.getfield 172, 3) := by decide +kernel
theorem d_IS_answerDraftOn_57 : decode b_IS_answerDraftOn 57 = .ok (.iload_n 1, 1) := by decide +kernel
theorem d_IS_answerDraftOn_58 : decode b_IS_answerDraftOn 58 = .ok (.if_icmp .ne 33, 3) := by decide +kernel
theorem d_IS_answerDraftOn_61 : decode b_IS_answerDraftOn 61 = .ok (.aload_n 0, 1) := by decide +kernel
theorem d_IS_answerDraftOn_62 : decode b_IS_answerDraftOn 62 = .ok (.getfield 32, 3) := by decide +kernel
theorem d_IS_answerDraftOn_65 : decode b_IS_answerDraftOn 65 = .ok (.aload_n 0, 1) := by decide +kernel
theorem d_IS_answerDraftOn_66 : decode b_IS_answerDraftOn 66 = .ok (.getfield 10, 3) := by decide +kernel
theorem d_IS_answerDraftOn_69 : decode b_IS_answerDraftOn 69 = .ok (.iload_n 2, 1) := by decide +kernel
theorem d_IS_answerDraftOn_70 : decode b_IS_answerDraftOn 70 = .ok (.invokevirtual 60, 3) := by decide +kernel
theorem d_IS_answerDraftOn_73 : decode b_IS_answerDraftOn 73 = .ok (.checkcast 44, 3) := by decide +kernel
theorem d_IS_answerDraftOn_76 : decode b_IS_answerDraftOn 76 = .ok (.getfield 64, 3) := by decide +kernel
theorem d_IS_answerDraftOn_79 : decode b_IS_answerDraftOn 79 = .ok (.invokevirtual 165, 3) := by decide +kernel
theorem d_IS_answerDraftOn_82 : decode b_IS_answerDraftOn 82 = .ok (.ifCond .eq 9, 3) := by decide +kernel
theorem d_IS_answerDraftOn_85 : decode b_IS_answerDraftOn 85 = .ok (.aload_n 0, 1) := by decide +kernel
theorem d_IS_answerDraftOn_86 : decode b_IS_answerDraftOn 86 = .ok (.iload_n 2, 1) := by decide +kernel
theorem d_IS_answerDraftOn_87 : decode b_IS_answerDraftOn 87 = .ok (.invokevirtual 169, 3) := by decide +kernel
theorem d_IS_answerDraftOn_90 : decode b_IS_answerDraftOn 90 = .ok (.ireturn, 1) := by decide +kernel
theorem d_IS_answerDraftOn_91 : decode b_IS_answerDraftOn 91 = .ok (.iinc 2 1, 3) := by decide +kernel
theorem d_IS_answerDraftOn_94 : decode b_IS_answerDraftOn 94 = .ok (.goto (-62), 3) := by decide +kernel
theorem d_IS_answerDraftOn_97 : decode b_IS_answerDraftOn 97 = .ok (.aload_n 0, 1) := by decide +kernel
theorem d_IS_answerDraftOn_98 : decode b_IS_answerDraftOn 98 = .ok (.getfield 10, 3) := by decide +kernel
theorem d_IS_answerDraftOn_101 : decode b_IS_answerDraftOn 101 = .ok (.invokevirtual 161, 3) := by decide +kernel
theorem d_IS_answerDraftOn_104 : decode b_IS_answerDraftOn 104 = .ok (.bipush 40, 2) := by decide +kernel
theorem d_IS_answerDraftOn_106 : decode b_IS_answerDraftOn 106 = .ok (.if_icmp .lt 6, 3) := by decide +kernel
theorem d_IS_answerDraftOn_109 : decode b_IS_answerDraftOn 109 = .ok (.bipush (-2), 2) := by decide +kernel
theorem d_IS_answerDraftOn_111 : decode b_IS_answerDraftOn 111 = .ok (.ireturn, 1) := by decide +kernel
theorem d_IS_answerDraftOn_112 : decode b_IS_answerDraftOn 112 = .ok (.aload_n 0, 1) := by decide +kernel
theorem d_IS_answerDraftOn_113 : decode b_IS_answerDraftOn 113 = .ok (.getfield 10, 3) := by decide +kernel
theorem d_IS_answerDraftOn_116 : decode b_IS_answerDraftOn 116 = .ok (.aload_n 0, 1) := by decide +kernel
theorem d_IS_answerDraftOn_117 : decode b_IS_answerDraftOn 117 = .ok (.iload_n 1, 1) := by decide +kernel
theorem d_IS_answerDraftOn_118 : decode b_IS_answerDraftOn 118 = .ok (.invokevirtual 175, 3) := by decide +kernel
theorem d_IS_answerDraftOn_121 : decode b_IS_answerDraftOn 121 = .ok (.invokevirtual 49, 3) := by decide +kernel
theorem d_IS_answerDraftOn_124 : decode b_IS_answerDraftOn 124 = .ok (.pop, 1) := by decide +kernel
theorem d_IS_answerDraftOn_125 : decode b_IS_answerDraftOn 125 = .ok (.aload_n 0, 1) := by decide +kernel
theorem d_IS_answerDraftOn_126 : decode b_IS_answerDraftOn 126 = .ok (.aload_n 0, 1) := by decide +kernel
theorem d_IS_answerDraftOn_127 : decode b_IS_answerDraftOn 127 = .ok (.getfield 10, 3) := by decide +kernel
theorem d_IS_answerDraftOn_130 : decode b_IS_answerDraftOn 130 = .ok (.invokevirtual 161, 3) := by decide +kernel
theorem d_IS_answerDraftOn_133 : decode b_IS_answerDraftOn 133 = .ok (.iconst 1, 1) := by decide +kernel
theorem d_IS_answerDraftOn_134 : decode b_IS_answerDraftOn 134 = .ok (.isub, 1) := by decide +kernel
theorem d_IS_answerDraftOn_135 : decode b_IS_answerDraftOn 135 = .ok (.invokevirtual 169, 3) := by decide +kernel
theorem d_IS_answerDraftOn_138 : decode b_IS_answerDraftOn 138 = .ok (.ireturn, 1) := by decide +kernel
theorem d_TR_sameAs_0 : decode b_TR_sameAs 0 = .ok (.iconst 0, 1) := by decide +kernel
theorem d_TR_sameAs_1 : decode b_TR_sameAs 1 = .ok (.istore_n 2, 1) := by decide +kernel
theorem d_TR_sameAs_2 : decode b_TR_sameAs 2 = .ok (.iload_n 2, 1) := by decide +kernel
theorem d_TR_sameAs_3 : decode b_TR_sameAs 3 = .ok (.bipush 125, 2) := by decide +kernel
theorem d_TR_sameAs_5 : decode b_TR_sameAs 5 = .ok (.if_icmp .ge 27, 3) := by decide +kernel
theorem d_TR_sameAs_8 : decode b_TR_sameAs 8 = .ok (.aload_n 0, 1) := by decide +kernel
theorem d_TR_sameAs_9 : decode b_TR_sameAs 9 = .ok (.getfield 9, 3) := by decide +kernel
theorem d_TR_sameAs_12 : decode b_TR_sameAs 12 = .ok (.iload_n 2, 1) := by decide +kernel
theorem d_TR_sameAs_13 : decode b_TR_sameAs 13 = .ok (.laload, 1) := by decide +kernel
theorem d_TR_sameAs_14 : decode b_TR_sameAs 14 = .ok (.aload_n 1, 1) := by decide +kernel
theorem d_TR_sameAs_15 : decode b_TR_sameAs 15 = .ok (.getfield 9, 3) := by decide +kernel
theorem d_TR_sameAs_18 : decode b_TR_sameAs 18 = .ok (.iload_n 2, 1) := by decide +kernel
theorem d_TR_sameAs_19 : decode b_TR_sameAs 19 = .ok (.laload, 1) := by decide +kernel
theorem d_TR_sameAs_20 : decode b_TR_sameAs 20 = .ok (.lcmp, 1) := by decide +kernel
theorem d_TR_sameAs_21 : decode b_TR_sameAs 21 = .ok (.ifCond .eq 5, 3) := by decide +kernel
theorem d_TR_sameAs_24 : decode b_TR_sameAs 24 = .ok (.iconst 0, 1) := by decide +kernel
theorem d_TR_sameAs_25 : decode b_TR_sameAs 25 = .ok (.ireturn, 1) := by decide +kernel
theorem d_TR_sameAs_26 : decode b_TR_sameAs 26 = .ok (.iinc 2 1, 3) := by decide +kernel
theorem d_TR_sameAs_29 : decode b_TR_sameAs 29 = .ok (.goto (-27), 3) := by decide +kernel
theorem d_TR_sameAs_32 : decode b_TR_sameAs 32 = .ok (.iconst 1, 1) := by decide +kernel
theorem d_TR_sameAs_33 : decode b_TR_sameAs 33 = .ok (.ireturn, 1) := by decide +kernel

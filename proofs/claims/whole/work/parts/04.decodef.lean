theorem d_MO_below_26 : decode b_MO_below 26 = .ok (.iload_n 1, 1) := by decide +kernel
theorem d_MO_below_27 : decode b_MO_below 27 = .ok (.if_icmp .ne 7, 3) := by decide +kernel
theorem d_MO_below_30 : decode b_MO_below 30 = .ok (.iconst 1, 1) := by decide +kernel
theorem d_MO_below_31 : decode b_MO_below 31 = .ok (.goto 4, 3) := by decide +kernel
theorem d_MO_below_34 : decode b_MO_below 34 = .ok (.iconst 0, 1) := by decide +kernel
theorem d_MO_below_35 : decode b_MO_below 35 = .ok (.ireturn, 1) := by decide +kernel
theorem d_MO_copy_0 : decode b_MO_copy 0 = .ok (.aload_n 0, 1) := by decide +kernel
theorem d_MO_copy_1 : decode b_MO_copy 1 = .ok (.getfield 28, 3) := by decide +kernel
theorem d_MO_copy_4 : decode b_MO_copy 4 = .ok (.iload_n 1, 1) := by decide +kernel
theorem d_MO_copy_5 : decode b_MO_copy 5 = .ok (.laload, 1) := by decide +kernel
theorem d_MO_copy_6 : decode b_MO_copy 6 = .ok (.ldc2_w 36, 3) := by decide +kernel
theorem d_MO_copy_9 : decode b_MO_copy 9 = .ok (.lcmp, 1) := by decide +kernel
theorem d_MO_copy_10 : decode b_MO_copy 10 = .ok (.ifCond .eq 45, 3) := by decide +kernel
theorem d_MO_copy_13 : decode b_MO_copy 13 = .ok (.aload_n 0, 1) := by decide +kernel
theorem d_MO_copy_14 : decode b_MO_copy 14 = .ok (.getfield 28, 3) := by decide +kernel
theorem d_MO_copy_17 : decode b_MO_copy 17 = .ok (.iload_n 2, 1) := by decide +kernel
theorem d_MO_copy_18 : decode b_MO_copy 18 = .ok (.laload, 1) := by decide +kernel
theorem d_MO_copy_19 : decode b_MO_copy 19 = .ok (.ldc2_w 36, 3) := by decide +kernel
theorem d_MO_copy_22 : decode b_MO_copy 22 = .ok (.lcmp, 1) := by decide +kernel
theorem d_MO_copy_23 : decode b_MO_copy 23 = .ok (.ifCond .ne 32, 3) := by decide +kernel
theorem d_MO_copy_26 : decode b_MO_copy 26 = .ok (.aload_n 0, 1) := by decide +kernel
theorem d_MO_copy_27 : decode b_MO_copy 27 = .ok (.getfield 28, 3) := by decide +kernel
theorem d_MO_copy_30 : decode b_MO_copy 30 = .ok (.iload_n 2, 1) := by decide +kernel
theorem d_MO_copy_31 : decode b_MO_copy 31 = .ok (.invokestatic 64, 3) := by decide +kernel
theorem d_MO_copy_34 : decode b_MO_copy 34 = .ok (.laload, 1) := by decide +kernel
theorem d_MO_copy_35 : decode b_MO_copy 35 = .ok (.ldc2_w 34, 3) := by decide +kernel
theorem d_MO_copy_38 : decode b_MO_copy 38 = .ok (.lcmp, 1) := by decide +kernel
theorem d_MO_copy_39 : decode b_MO_copy 39 = .ok (.ifCond .ne 16, 3) := by decide +kernel
theorem d_MO_copy_42 : decode b_MO_copy 42 = .ok (.iload_n 2, 1) := by decide +kernel
theorem d_MO_copy_43 : decode b_MO_copy 43 = .ok (.iload_n 1, 1) := by decide +kernel
theorem d_MO_copy_44 : decode b_MO_copy 44 = .ok (.if_icmp .eq 11, 3) := by decide +kernel
theorem d_MO_copy_47 : decode b_MO_copy 47 = .ok (.iload_n 2, 1) := by decide +kernel
theorem d_MO_copy_48 : decode b_MO_copy 48 = .ok (.iload_n 1, 1) := by decide +kernel
theorem d_MO_copy_49 : decode b_MO_copy 49 = .ok (.invokestatic 57, 3) := by decide +kernel
theorem d_MO_copy_52 : decode b_MO_copy 52 = .ok (.ifCond .eq 5, 3) := by decide +kernel
theorem d_MO_copy_55 : decode b_MO_copy 55 = .ok (.iconst 0, 1) := by decide +kernel
theorem d_MO_copy_56 : decode b_MO_copy 56 = .ok (.ireturn, 1) := by decide +kernel
theorem d_MO_copy_57 : decode b_MO_copy 57 = .ok (.iconst 1, 1) := by decide +kernel
theorem d_MO_copy_58 : decode b_MO_copy 58 = .ok (.istore_n 3, 1) := by decide +kernel
theorem d_MO_copy_59 : decode b_MO_copy 59 = .ok (.iload_n 3, 1) := by decide +kernel
theorem d_MO_copy_60 : decode b_MO_copy 60 = .ok (.bipush 125, 2) := by decide +kernel
theorem d_MO_copy_62 : decode b_MO_copy 62 = .ok (.if_icmp .ge 46, 3) := by decide +kernel
theorem d_MO_copy_65 : decode b_MO_copy 65 = .ok (.iload_n 3, 1) := by decide +kernel
theorem d_MO_copy_66 : decode b_MO_copy 66 = .ok (.iload_n 1, 1) := by decide +kernel
theorem d_MO_copy_67 : decode b_MO_copy 67 = .ok (.if_icmp .eq 11, 3) := by decide +kernel
theorem d_MO_copy_70 : decode b_MO_copy 70 = .ok (.iload_n 3, 1) := by decide +kernel
theorem d_MO_copy_71 : decode b_MO_copy 71 = .ok (.iload_n 1, 1) := by decide +kernel
theorem d_MO_copy_72 : decode b_MO_copy 72 = .ok (.invokestatic 57, 3) := by decide +kernel
theorem d_MO_copy_75 : decode b_MO_copy 75 = .ok (.ifCond .eq 27, 3) := by decide +kernel
theorem d_MO_copy_78 : decode b_MO_copy 78 = .ok (.aload_n 0, 1) := by decide +kernel
theorem d_MO_copy_79 : decode b_MO_copy 79 = .ok (.getfield 28, 3) := by decide +kernel
theorem d_MO_copy_82 : decode b_MO_copy 82 = .ok (.iload_n 3, 1) := by decide +kernel
theorem d_MO_copy_83 : decode b_MO_copy 83 = .ok (.laload, 1) := by decide +kernel
theorem d_MO_copy_84 : decode b_MO_copy 84 = .ok (.ldc2_w 36, 3) := by decide +kernel
theorem d_MO_copy_87 : decode b_MO_copy 87 = .ok (.lcmp, 1) := by decide +kernel
theorem d_MO_copy_88 : decode b_MO_copy 88 = .ok (.ifCond .eq 14, 3) := by decide +kernel
theorem d_MO_copy_91 : decode b_MO_copy 91 = .ok (.iload_n 3, 1) := by decide +kernel
theorem d_MO_copy_92 : decode b_MO_copy 92 = .ok (.iload_n 1, 1) := by decide +kernel
theorem d_MO_copy_93 : decode b_MO_copy 93 = .ok (.iload_n 2, 1) := by decide +kernel
theorem d_MO_copy_94 : decode b_MO_copy 94 = .ok (.invokestatic 67, 3) := by decide +kernel
theorem d_MO_copy_97 : decode b_MO_copy 97 = .ok (.ifCond .ne 5, 3) := by decide +kernel
theorem d_MO_copy_100 : decode b_MO_copy 100 = .ok (.iconst 0, 1) := by decide +kernel
theorem d_MO_copy_101 : decode b_MO_copy 101 = .ok (.ireturn, 1) := by decide +kernel
theorem d_MO_copy_102 : decode b_MO_copy 102 = .ok (.iinc 3 1, 3) := by decide +kernel
theorem d_MO_copy_105 : decode b_MO_copy 105 = .ok (.goto (-46), 3) := by decide +kernel
theorem d_MO_copy_108 : decode b_MO_copy 108 = .ok (.iconst 1, 1) := by decide +kernel
theorem d_MO_copy_109 : decode b_MO_copy 109 = .ok (.istore_n 3, 1) := by decide +kernel
theorem d_MO_copy_110 : decode b_MO_copy 110 = .ok (.iload_n 3, 1) := by decide +kernel
theorem d_MO_copy_111 : decode b_MO_copy 111 = .ok (.bipush 125, 2) := by decide +kernel
theorem d_MO_copy_113 : decode b_MO_copy 113 = .ok (.if_icmp .ge 52, 3) := by decide +kernel
theorem d_MO_copy_116 : decode b_MO_copy 116 = .ok (.iload_n 3, 1) := by decide +kernel
theorem d_MO_copy_117 : decode b_MO_copy 117 = .ok (.iload_n 1, 1) := by decide +kernel
theorem d_MO_copy_118 : decode b_MO_copy 118 = .ok (.if_icmp .eq 11, 3) := by decide +kernel
theorem d_MO_copy_121 : decode b_MO_copy 121 = .ok (.iload_n 3, 1) := by decide +kernel
theorem d_MO_copy_122 : decode b_MO_copy 122 = .ok (.iload_n 1, 1) := by decide +kernel
theorem d_MO_copy_123 : decode b_MO_copy 123 = .ok (.invokestatic 57, 3) := by decide +kernel
theorem d_MO_copy_126 : decode b_MO_copy 126 = .ok (.ifCond .eq 33, 3) := by decide +kernel
theorem d_MO_copy_129 : decode b_MO_copy 129 = .ok (.aload_n 0, 1) := by decide +kernel
theorem d_MO_copy_130 : decode b_MO_copy 130 = .ok (.getfield 28, 3) := by decide +kernel
theorem d_MO_copy_133 : decode b_MO_copy 133 = .ok (.iload_n 3, 1) := by decide +kernel
theorem d_MO_copy_134 : decode b_MO_copy 134 = .ok (.laload, 1) := by decide +kernel
theorem d_MO_copy_135 : decode b_MO_copy 135 = .ok (.ldc2_w 36, 3) := by decide +kernel
theorem d_MO_copy_138 : decode b_MO_copy 138 = .ok (.lcmp, 1) := by decide +kernel
theorem d_MO_copy_139 : decode b_MO_copy 139 = .ok (.ifCond .eq 20, 3) := by decide +kernel
theorem d_MO_copy_142 : decode b_MO_copy 142 = .ok (.aload_n 0, 1) := by decide +kernel
theorem d_MO_copy_143 : decode b_MO_copy 143 = .ok (.getfield 28, 3) := by decide +kernel
theorem d_MO_copy_146 : decode b_MO_copy 146 = .ok (.iload_n 3, 1) := by decide +kernel
theorem d_MO_copy_147 : decode b_MO_copy 147 = .ok (.iload_n 1, 1) := by decide +kernel
theorem d_MO_copy_148 : decode b_MO_copy 148 = .ok (.iload_n 2, 1) := by decide +kernel
theorem d_MO_copy_149 : decode b_MO_copy 149 = .ok (.invokestatic 67, 3) := by decide +kernel
theorem d_MO_copy_152 : decode b_MO_copy 152 = .ok (.aload_n 0, 1) := by decide +kernel
theorem d_MO_copy_153 : decode b_MO_copy 153 = .ok (.getfield 28, 3) := by decide +kernel
theorem d_MO_copy_156 : decode b_MO_copy 156 = .ok (.iload_n 3, 1) := by decide +kernel
theorem d_MO_copy_157 : decode b_MO_copy 157 = .ok (.laload, 1) := by decide +kernel
theorem d_MO_copy_158 : decode b_MO_copy 158 = .ok (.lastore, 1) := by decide +kernel
theorem d_MO_copy_159 : decode b_MO_copy 159 = .ok (.iinc 3 1, 3) := by decide +kernel
theorem d_MO_copy_162 : decode b_MO_copy 162 = .ok (.goto (-52), 3) := by decide +kernel
theorem d_MO_copy_165 : decode b_MO_copy 165 = .ok (.iconst 1, 1) := by decide +kernel
theorem d_MO_copy_166 : decode b_MO_copy 166 = .ok (.ireturn, 1) := by decide +kernel
theorem d_MO_above_0 : decode b_MO_above 0 = .ok (.iload_n 0, 1) := by decide +kernel
theorem d_MO_above_1 : decode b_MO_above 1 = .ok (.iload_n 0, 1) := by decide +kernel
theorem d_MO_above_2 : decode b_MO_above 2 = .ok (.invokestatic 38, 3) := by decide +kernel
theorem d_MO_above_5 : decode b_MO_above 5 = .ok (.iconst 1, 1) := by decide +kernel
theorem d_MO_above_6 : decode b_MO_above 6 = .ok (.isub, 1) := by decide +kernel
theorem d_MO_above_7 : decode b_MO_above 7 = .ok (.invokestatic 42, 3) := by decide +kernel
theorem d_MO_above_10 : decode b_MO_above 10 = .ok (.ireturn, 1) := by decide +kernel
theorem d_MO_carried_0 : decode b_MO_carried 0 = .ok (.iload_n 2, 1) := by decide +kernel
theorem d_MO_carried_1 : decode b_MO_carried 1 = .ok (.invokestatic 38, 3) := by decide +kernel
theorem d_MO_carried_4 : decode b_MO_carried 4 = .ok (.istore_n 3, 1) := by decide +kernel
theorem d_MO_carried_5 : decode b_MO_carried 5 = .ok (.iload_n 2, 1) := by decide +kernel
theorem d_MO_carried_6 : decode b_MO_carried 6 = .ok (.istore 4, 2) := by decide +kernel
theorem d_MO_carried_8 : decode b_MO_carried 8 = .ok (.iload_n 1, 1) := by decide +kernel
theorem d_MO_carried_9 : decode b_MO_carried 9 = .ok (.invokestatic 38, 3) := by decide +kernel
theorem d_MO_carried_12 : decode b_MO_carried 12 = .ok (.istore 5, 2) := by decide +kernel
theorem d_MO_carried_14 : decode b_MO_carried 14 = .ok (.iload 5, 2) := by decide +kernel
theorem d_MO_carried_16 : decode b_MO_carried 16 = .ok (.iload_n 0, 1) := by decide +kernel
theorem d_MO_carried_17 : decode b_MO_carried 17 = .ok (.invokestatic 38, 3) := by decide +kernel
theorem d_MO_carried_20 : decode b_MO_carried 20 = .ok (.if_icmp .ge 41, 3) := by decide +kernel
theorem d_MO_carried_23 : decode b_MO_carried 23 = .ok (.iload_n 3, 1) := by decide +kernel
theorem d_MO_carried_24 : decode b_MO_carried 24 = .ok (.iconst 3, 1) := by decide +kernel
theorem d_MO_carried_25 : decode b_MO_carried 25 = .ok (.if_icmp .ne 5, 3) := by decide +kernel
theorem d_MO_carried_28 : decode b_MO_carried 28 = .ok (.iconst 0, 1) := by decide +kernel
theorem d_MO_carried_29 : decode b_MO_carried 29 = .ok (.ireturn, 1) := by decide +kernel
theorem d_MO_carried_30 : decode b_MO_carried 30 = .ok (.iload 4, 2) := by decide +kernel
theorem d_MO_carried_32 : decode b_MO_carried 32 = .ok (.iload_n 0, 1) := by decide +kernel
theorem d_MO_carried_33 : decode b_MO_carried 33 = .ok (.iload 5, 2) := by decide +kernel
theorem d_MO_carried_35 : decode b_MO_carried 35 = .ok (.invokestatic 61, 3) := by decide +kernel
theorem d_MO_carried_38 : decode b_MO_carried 38 = .ok (.iload_n 3, 1) := by decide +kernel
theorem d_MO_carried_39 : decode b_MO_carried 39 = .ok (.iconst 1, 1) := by decide +kernel
theorem d_MO_carried_40 : decode b_MO_carried 40 = .ok (.if_icmp .ne 7, 3) := by decide +kernel
theorem d_MO_carried_43 : decode b_MO_carried 43 = .ok (.iconst 5, 1) := by decide +kernel
theorem d_MO_carried_44 : decode b_MO_carried 44 = .ok (.goto 4, 3) := by decide +kernel
theorem d_MO_carried_47 : decode b_MO_carried 47 = .ok (.iconst 1, 1) := by decide +kernel
theorem d_MO_carried_48 : decode b_MO_carried 48 = .ok (.imul, 1) := by decide +kernel
theorem d_MO_carried_49 : decode b_MO_carried 49 = .ok (.iadd, 1) := by decide +kernel
theorem d_MO_carried_50 : decode b_MO_carried 50 = .ok (.istore 4, 2) := by decide +kernel
theorem d_MO_carried_52 : decode b_MO_carried 52 = .ok (.iinc 3 1, 3) := by decide +kernel
theorem d_MO_carried_55 : decode b_MO_carried 55 = .ok (.iinc 5 1, 3) := by decide +kernel
theorem d_MO_carried_58 : decode b_MO_carried 58 = .ok (.goto (-44), 3) := by decide +kernel
theorem d_MO_carried_61 : decode b_MO_carried 61 = .ok (.iload 4, 2) := by decide +kernel
theorem d_MO_carried_63 : decode b_MO_carried 63 = .ok (.ireturn, 1) := by decide +kernel
theorem d_MO_name_0 : decode b_MO_name 0 = .ok (.iload_n 1, 1) := by decide +kernel
theorem d_MO_name_1 : decode b_MO_name 1 = .ok (.ifCond .ne 10, 3) := by decide +kernel
theorem d_MO_name_4 : decode b_MO_name 4 = .ok (.iload_n 0, 1) := by decide +kernel
theorem d_MO_name_5 : decode b_MO_name 5 = .ok (.bipush 25, 2) := by decide +kernel
theorem d_MO_name_7 : decode b_MO_name 7 = .ok (.idiv, 1) := by decide +kernel
theorem d_MO_name_8 : decode b_MO_name 8 = .ok (.goto 19, 3) := by decide +kernel
theorem d_MO_name_11 : decode b_MO_name 11 = .ok (.iload_n 1, 1) := by decide +kernel
theorem d_MO_name_12 : decode b_MO_name 12 = .ok (.iconst 1, 1) := by decide +kernel
theorem d_MO_name_13 : decode b_MO_name 13 = .ok (.if_icmp .ne 11, 3) := by decide +kernel
theorem d_MO_name_16 : decode b_MO_name 16 = .ok (.iload_n 0, 1) := by decide +kernel
theorem d_MO_name_17 : decode b_MO_name 17 = .ok (.iconst 5, 1) := by decide +kernel
theorem d_MO_name_18 : decode b_MO_name 18 = .ok (.idiv, 1) := by decide +kernel
theorem d_MO_name_19 : decode b_MO_name 19 = .ok (.iconst 5, 1) := by decide +kernel
theorem d_MO_name_20 : decode b_MO_name 20 = .ok (.irem, 1) := by decide +kernel
theorem d_MO_name_21 : decode b_MO_name 21 = .ok (.goto 6, 3) := by decide +kernel
theorem d_MO_name_24 : decode b_MO_name 24 = .ok (.iload_n 0, 1) := by decide +kernel
theorem d_MO_name_25 : decode b_MO_name 25 = .ok (.iconst 5, 1) := by decide +kernel
theorem d_MO_name_26 : decode b_MO_name 26 = .ok (.irem, 1) := by decide +kernel
theorem d_MO_name_27 : decode b_MO_name 27 = .ok (.ireturn, 1) := by decide +kernel
theorem d_MO_image_0 : decode b_MO_image 0 = .ok (.aload_n 0, 1) := by decide +kernel
theorem d_MO_image_1 : decode b_MO_image 1 = .ok (.iload_n 1, 1) := by decide +kernel
theorem d_MO_image_2 : decode b_MO_image 2 = .ok (.invokevirtual 87, 3) := by decide +kernel
theorem d_MO_image_5 : decode b_MO_image 5 = .ok (.ifCond .eq 9, 3) := by decide +kernel
theorem d_MO_image_8 : decode b_MO_image 8 = .ok (.aload_n 0, 1) := by decide +kernel
theorem d_MO_image_9 : decode b_MO_image 9 = .ok (.iload_n 1, 1) := by decide +kernel
theorem d_MO_image_10 : decode b_MO_image 10 = .ok (.invokevirtual 90, 3) := by decide +kernel
theorem d_MO_image_13 : decode b_MO_image 13 = .ok (.ireturn, 1) := by decide +kernel
theorem d_MO_image_14 : decode b_MO_image 14 = .ok (.iconst 1, 1) := by decide +kernel
theorem d_MO_image_15 : decode b_MO_image 15 = .ok (.istore_n 2, 1) := by decide +kernel
theorem d_MO_image_16 : decode b_MO_image 16 = .ok (.iload_n 2, 1) := by decide +kernel
theorem d_MO_image_17 : decode b_MO_image 17 = .ok (.aload_n 0, 1) := by decide +kernel
theorem d_MO_image_18 : decode b_MO_image 18 = .ok (.getfield 17, 3) := by decide +kernel
theorem d_MO_image_21 : decode b_MO_image 21 = .ok (.if_icmp .ge 33, 3) := by decide +kernel
theorem d_MO_image_24 : decode b_MO_image 24 = .ok (.aload_n 0, 1) := by decide +kernel
theorem d_MO_image_25 : decode b_MO_image 25 = .ok (.getfield 7, 3) := by decide +kernel
theorem d_MO_image_28 : decode b_MO_image 28 = .ok (.iload_n 2, 1) := by decide +kernel
theorem d_MO_image_29 : decode b_MO_image 29 = .ok (.iaload, 1) := by decide +kernel
theorem d_MO_image_30 : decode b_MO_image 30 = .ok (.iload_n 1, 1) := by decide +kernel
theorem d_MO_image_31 : decode b_MO_image 31 = .ok (.if_icmp .ne 17, 3) := by decide +kernel
theorem d_MO_image_34 : decode b_MO_image 34 = .ok (.aload_n 0, 1) := by decide +kernel
theorem d_MO_image_35 : decode b_MO_image 35 = .ok (.iload_n 2, 1) := by decide +kernel
theorem d_MO_image_36 : decode b_MO_image 36 = .ok (.invokevirtual 87, 3) := by decide +kernel
theorem d_MO_image_39 : decode b_MO_image 39 = .ok (.ifCond .eq 9, 3) := by decide +kernel
theorem d_MO_image_42 : decode b_MO_image 42 = .ok (.aload_n 0, 1) := by decide +kernel
theorem d_MO_image_43 : decode b_MO_image 43 = .ok (.iload_n 2, 1) := by decide +kernel
theorem d_MO_image_44 : decode b_MO_image 44 = .ok (.invokevirtual 90, 3) := by decide +kernel
theorem d_MO_image_47 : decode b_MO_image 47 = .ok (.ireturn, 1) := by decide +kernel
theorem d_MO_image_48 : decode b_MO_image 48 = .ok (.iinc 2 1, 3) := by decide +kernel
theorem d_MO_image_51 : decode b_MO_image 51 = .ok (.goto (-35), 3) := by decide +kernel
theorem d_MO_image_54 : decode b_MO_image 54 = .ok (.aload_n 0, 1) := by decide +kernel
theorem d_MO_image_55 : decode b_MO_image 55 = .ok (.getfield 17, 3) := by decide +kernel
theorem d_MO_image_58 : decode b_MO_image 58 = .ok (.bipush 40, 2) := by decide +kernel
theorem d_MO_image_60 : decode b_MO_image 60 = .ok (.if_icmp .ne 6, 3) := by decide +kernel
theorem d_MO_image_63 : decode b_MO_image 63 = .ok (.bipush (-2), 2) := by decide +kernel
theorem d_MO_image_65 : decode b_MO_image 65 = .ok (.ireturn, 1) := by decide +kernel
theorem d_MO_image_66 : decode b_MO_image 66 = .ok (.aload_n 0, 1) := by decide +kernel
theorem d_MO_image_67 : decode b_MO_image 67 = .ok (.getfield 7, 3) := by decide +kernel
theorem d_MO_image_70 : decode b_MO_image 70 = .ok (.aload_n 0, 1) := by decide +kernel
theorem d_MO_image_71 : decode b_MO_image 71 = .ok (.getfield 17, 3) := by decide +kernel
theorem d_MO_image_74 : decode b_MO_image 74 = .ok (.iload_n 1, 1) := by decide +kernel
theorem d_MO_image_75 : decode b_MO_image 75 = .ok (.iastore, 1) := by decide +kernel
theorem d_MO_image_76 : decode b_MO_image 76 = .ok (.iconst 0, 1) := by decide +kernel
theorem d_MO_image_77 : decode b_MO_image 77 = .ok (.istore_n 2, 1) := by decide +kernel
theorem d_MO_image_78 : decode b_MO_image 78 = .ok (.iload_n 2, 1) := by decide +kernel
theorem d_MO_image_79 : decode b_MO_image 79 = .ok (.bipush 125, 2) := by decide +kernel
theorem d_MO_image_81 : decode b_MO_image 81 = .ok (.if_icmp .ge 29, 3) := by decide +kernel
theorem d_MO_image_84 : decode b_MO_image 84 = .ok (.aload_n 0, 1) := by decide +kernel
theorem d_MO_image_85 : decode b_MO_image 85 = .ok (.getfield 13, 3) := by decide +kernel
theorem d_MO_image_88 : decode b_MO_image 88 = .ok (.bipush 125, 2) := by decide +kernel
theorem d_MO_image_90 : decode b_MO_image 90 = .ok (.aload_n 0, 1) := by decide +kernel
theorem d_MO_image_91 : decode b_MO_image 91 = .ok (.getfield 17, 3) := by decide +kernel
theorem d_MO_image_94 : decode b_MO_image 94 = .ok (.imul, 1) := by decide +kernel
theorem d_MO_image_95 : decode b_MO_image 95 = .ok (.iload_n 2, 1) := by decide +kernel
theorem d_MO_image_96 : decode b_MO_image 96 = .ok (.iadd, 1) := by decide +kernel
theorem d_MO_image_97 : decode b_MO_image 97 = .ok (.aload_n 0, 1) := by decide +kernel
theorem d_MO_image_98 : decode b_MO_image 98 = .ok (.getfield 28, 3) := by decide +kernel
theorem d_MO_image_101 : decode b_MO_image 101 = .ok (.iload_n 2, 1) := by decide +kernel
theorem d_MO_image_102 : decode b_MO_image 102 = .ok (.laload, 1) := by decide +kernel
theorem d_MO_image_103 : decode b_MO_image 103 = .ok (.lastore, 1) := by decide +kernel
theorem d_MO_image_104 : decode b_MO_image 104 = .ok (.iinc 2 1, 3) := by decide +kernel
theorem d_MO_image_107 : decode b_MO_image 107 = .ok (.goto (-29), 3) := by decide +kernel
theorem d_MO_image_110 : decode b_MO_image 110 = .ok (.aload_n 0, 1) := by decide +kernel
theorem d_MO_image_111 : decode b_MO_image 111 = .ok (.dup, 1) := by decide +kernel
theorem d_MO_image_112 : decode b_MO_image 112 = .ok (.getfield 17, 3) := by decide +kernel
theorem d_MO_image_115 : decode b_MO_image 115 = .ok (.iconst 1, 1) := by decide +kernel
theorem d_MO_image_116 : decode b_MO_image 116 = .ok (.iadd, 1) := by decide +kernel
theorem d_MO_image_117 : decode b_MO_image 117 = .ok (.putfield 17, 3) := by decide +kernel
theorem d_MO_image_120 : decode b_MO_image 120 = .ok (.aload_n 0, 1) := by decide +kernel
theorem d_MO_image_121 : decode b_MO_image 121 = .ok (.aload_n 0, 1) := by decide +kernel
theorem d_MO_image_122 : decode b_MO_image 122 = .ok (.getfield 17, 3) := by decide +kernel
theorem d_MO_image_125 : decode b_MO_image 125 = .ok (.iconst 1, 1) := by decide +kernel
theorem d_MO_image_126 : decode b_MO_image 126 = .ok (.isub, 1) := by decide +kernel
theorem d_MO_image_127 : decode b_MO_image 127 = .ok (.invokevirtual 90, 3) := by decide +kernel
theorem d_MO_image_130 : decode b_MO_image 130 = .ok (.ireturn, 1) := by decide +kernel
theorem d_MO_workIs_0 : decode b_MO_workIs 0 = .ok (.iconst 0, 1) := by decide +kernel
theorem d_MO_workIs_1 : decode b_MO_workIs 1 = .ok (.istore_n 2, 1) := by decide +kernel
theorem d_MO_workIs_2 : decode b_MO_workIs 2 = .ok (.iload_n 2, 1) := by decide +kernel
theorem d_MO_workIs_3 : decode b_MO_workIs 3 = .ok (.bipush 125, 2) := by decide +kernel
theorem d_MO_workIs_5 : decode b_MO_workIs 5 = .ok (.if_icmp .ge 32, 3) := by decide +kernel
theorem d_MO_workIs_8 : decode b_MO_workIs 8 = .ok (.aload_n 0, 1) := by decide +kernel
theorem d_MO_workIs_9 : decode b_MO_workIs 9 = .ok (.getfield 28, 3) := by decide +kernel
theorem d_MO_workIs_12 : decode b_MO_workIs 12 = .ok (.iload_n 2, 1) := by decide +kernel
theorem d_MO_workIs_13 : decode b_MO_workIs 13 = .ok (.laload, 1) := by decide +kernel
theorem d_MO_workIs_14 : decode b_MO_workIs 14 = .ok (.aload_n 0, 1) := by decide +kernel
theorem d_MO_workIs_15 : decode b_MO_workIs 15 = .ok (.getfield 13, 3) := by decide +kernel
theorem d_MO_workIs_18 : decode b_MO_workIs 18 = .ok (.bipush 125, 2) := by decide +kernel
theorem d_MO_workIs_20 : decode b_MO_workIs 20 = .ok (.iload_n 1, 1) := by decide +kernel
theorem d_MO_workIs_21 : decode b_MO_workIs 21 = .ok (.imul, 1) := by decide +kernel
theorem d_MO_workIs_22 : decode b_MO_workIs 22 = .ok (.iload_n 2, 1) := by decide +kernel
theorem d_MO_workIs_23 : decode b_MO_workIs 23 = .ok (.iadd, 1) := by decide +kernel
theorem d_MO_workIs_24 : decode b_MO_workIs 24 = .ok (.laload, 1) := by decide +kernel
theorem d_MO_workIs_25 : decode b_MO_workIs 25 = .ok (.lcmp, 1) := by decide +kernel
theorem d_MO_workIs_26 : decode b_MO_workIs 26 = .ok (.ifCond .eq 5, 3) := by decide +kernel
theorem d_MO_workIs_29 : decode b_MO_workIs 29 = .ok (.iconst 0, 1) := by decide +kernel
theorem d_MO_workIs_30 : decode b_MO_workIs 30 = .ok (.ireturn, 1) := by decide +kernel
theorem d_MO_workIs_31 : decode b_MO_workIs 31 = .ok (.iinc 2 1, 3) := by decide +kernel
theorem d_MO_workIs_34 : decode b_MO_workIs 34 = .ok (.goto (-32), 3) := by decide +kernel
theorem d_MO_workIs_37 : decode b_MO_workIs 37 = .ok (.iconst 1, 1) := by decide +kernel
theorem d_MO_workIs_38 : decode b_MO_workIs 38 = .ok (.ireturn, 1) := by decide +kernel
theorem d_MO_answer_0 : decode b_MO_answer 0 = .ok (.aload_n 0, 1) := by decide +kernel
theorem d_MO_answer_1 : decode b_MO_answer 1 = .ok (.getfield 21, 3) := by decide +kernel
theorem d_MO_answer_4 : decode b_MO_answer 4 = .ok (.iload_n 1, 1) := by decide +kernel
theorem d_MO_answer_5 : decode b_MO_answer 5 = .ok (.baload, 1) := by decide +kernel
theorem d_MO_answer_6 : decode b_MO_answer 6 = .ok (.ifCond .eq 13, 3) := by decide +kernel
theorem d_MO_answer_9 : decode b_MO_answer 9 = .ok (.aload_n 0, 1) := by decide +kernel
theorem d_MO_answer_10 : decode b_MO_answer 10 = .ok (.dup, 1) := by decide +kernel
theorem d_MO_answer_11 : decode b_MO_answer 11 = .ok (.getfield 84, 3) := by decide +kernel
theorem d_MO_answer_14 : decode b_MO_answer 14 = .ok (.iconst 1, 1) := by decide +kernel
theorem d_MO_answer_15 : decode b_MO_answer 15 = .ok (.iadd, 1) := by decide +kernel
theorem d_MO_answer_16 : decode b_MO_answer 16 = .ok (.putfield 84, 3) := by decide +kernel
theorem d_MO_answer_19 : decode b_MO_answer 19 = .ok (.aload_n 0, 1) := by decide +kernel
theorem d_MO_answer_20 : decode b_MO_answer 20 = .ok (.getfield 21, 3) := by decide +kernel
theorem d_MO_answer_23 : decode b_MO_answer 23 = .ok (.iload_n 1, 1) := by decide +kernel
theorem d_MO_answer_24 : decode b_MO_answer 24 = .ok (.iconst 1, 1) := by decide +kernel
theorem d_MO_answer_25 : decode b_MO_answer 25 = .ok (.bastore, 1) := by decide +kernel
theorem d_MO_answer_26 : decode b_MO_answer 26 = .ok (.iload_n 1, 1) := by decide +kernel
theorem d_MO_answer_27 : decode b_MO_answer 27 = .ok (.ireturn, 1) := by decide +kernel
theorem d_MO_flatten_0 : decode b_MO_flatten 0 = .ok (.aload_n 0, 1) := by decide +kernel
theorem d_MO_flatten_1 : decode b_MO_flatten 1 = .ok (.iconst 0, 1) := by decide +kernel
theorem d_MO_flatten_2 : decode b_MO_flatten 2 = .ok (.iload_n 1, 1) := by decide +kernel
theorem d_MO_flatten_3 : decode b_MO_flatten 3 = .ok (.invokevirtual 93, 3) := by decide +kernel
theorem d_MO_flatten_6 : decode b_MO_flatten 6 = .ok (.ifCond .ne 5, 3) := by decide +kernel
theorem d_MO_flatten_9 : decode b_MO_flatten 9 = .ok (.iconst (-1), 1) := by decide +kernel
theorem d_MO_flatten_10 : decode b_MO_flatten 10 = .ok (.ireturn, 1) := by decide +kernel
theorem d_MO_flatten_11 : decode b_MO_flatten 11 = .ok (.aload_n 0, 1) := by decide +kernel
theorem d_MO_flatten_12 : decode b_MO_flatten 12 = .ok (.iload_n 1, 1) := by decide +kernel
theorem d_MO_flatten_13 : decode b_MO_flatten 13 = .ok (.invokevirtual 96, 3) := by decide +kernel
theorem d_MO_flatten_16 : decode b_MO_flatten 16 = .ok (.aload_n 0, 1) := by decide +kernel
theorem d_MO_flatten_17 : decode b_MO_flatten 17 = .ok (.iconst 0, 1) := by decide +kernel
theorem d_MO_flatten_18 : decode b_MO_flatten 18 = .ok (.invokevirtual 104, 3) := by decide +kernel
theorem d_MO_flatten_21 : decode b_MO_flatten 21 = .ok (.ireturn, 1) := by decide +kernel
theorem d_MO_tag_0 : decode b_MO_tag 0 = .ok (.iload_n 1, 1) := by decide +kernel
theorem d_MO_tag_1 : decode b_MO_tag 1 = .ok (.iload_n 2, 1) := by decide +kernel
theorem d_MO_tag_2 : decode b_MO_tag 2 = .ok (.invokestatic 133, 3) := by decide +kernel
theorem d_MO_tag_5 : decode b_MO_tag 5 = .ok (.ifCond .ne 12, 3) := by decide +kernel
theorem d_MO_tag_8 : decode b_MO_tag 8 = .ok (.aload_n 0, 1) := by decide +kernel
theorem d_MO_tag_9 : decode b_MO_tag 9 = .ok (.iload_n 1, 1) := by decide +kernel
theorem d_MO_tag_10 : decode b_MO_tag 10 = .ok (.iload_n 3, 1) := by decide +kernel
theorem d_MO_tag_11 : decode b_MO_tag 11 = .ok (.invokevirtual 93, 3) := by decide +kernel
theorem d_MO_tag_14 : decode b_MO_tag 14 = .ok (.ifCond .ne 5, 3) := by decide +kernel
theorem d_MO_tag_17 : decode b_MO_tag 17 = .ok (.iconst (-1), 1) := by decide +kernel
theorem d_MO_tag_18 : decode b_MO_tag 18 = .ok (.ireturn, 1) := by decide +kernel
theorem d_MO_tag_19 : decode b_MO_tag 19 = .ok (.aload_n 0, 1) := by decide +kernel
theorem d_MO_tag_20 : decode b_MO_tag 20 = .ok (.getfield 25, 3) := by decide +kernel
theorem d_MO_tag_23 : decode b_MO_tag 23 = .ok (.bipush 6, 2) := by decide +kernel
theorem d_MO_tag_25 : decode b_MO_tag 25 = .ok (.iload_n 1, 1) := by decide +kernel
theorem d_MO_tag_26 : decode b_MO_tag 26 = .ok (.imul, 1) := by decide +kernel
theorem d_MO_tag_27 : decode b_MO_tag 27 = .ok (.iload_n 2, 1) := by decide +kernel
theorem d_MO_tag_28 : decode b_MO_tag 28 = .ok (.iadd, 1) := by decide +kernel
theorem d_MO_tag_29 : decode b_MO_tag 29 = .ok (.iaload, 1) := by decide +kernel
theorem d_MO_tag_30 : decode b_MO_tag 30 = .ok (.istore 4, 2) := by decide +kernel
theorem d_MO_tag_32 : decode b_MO_tag 32 = .ok (.aload_n 0, 1) := by decide +kernel
theorem d_MO_tag_33 : decode b_MO_tag 33 = .ok (.getfield 25, 3) := by decide +kernel
theorem d_MO_tag_36 : decode b_MO_tag 36 = .ok (.bipush 6, 2) := by decide +kernel
theorem d_MO_tag_38 : decode b_MO_tag 38 = .ok (.iload_n 1, 1) := by decide +kernel
theorem d_MO_tag_39 : decode b_MO_tag 39 = .ok (.imul, 1) := by decide +kernel
theorem d_MO_tag_40 : decode b_MO_tag 40 = .ok (.iload_n 2, 1) := by decide +kernel
theorem d_MO_tag_41 : decode b_MO_tag 41 = .ok (.iadd, 1) := by decide +kernel
theorem d_MO_tag_42 : decode b_MO_tag 42 = .ok (.iload_n 3, 1) := by decide +kernel
theorem d_MO_tag_43 : decode b_MO_tag 43 = .ok (.iastore, 1) := by decide +kernel
theorem d_MO_tag_44 : decode b_MO_tag 44 = .ok (.iload 4, 2) := by decide +kernel
theorem d_MO_tag_46 : decode b_MO_tag 46 = .ok (.ireturn, 1) := by decide +kernel
theorem d_MO_badTag_0 : decode b_MO_badTag 0 = .ok (.iload_n 0, 1) := by decide +kernel
theorem d_MO_badTag_1 : decode b_MO_badTag 1 = .ok (.ifCond .lt 17, 3) := by decide +kernel
theorem d_MO_badTag_4 : decode b_MO_badTag 4 = .ok (.iload_n 0, 1) := by decide +kernel
theorem d_MO_badTag_5 : decode b_MO_badTag 5 = .ok (.iconst 1, 1) := by decide +kernel
theorem d_MO_badTag_6 : decode b_MO_badTag 6 = .ok (.if_icmp .gt 12, 3) := by decide +kernel
theorem d_MO_badTag_9 : decode b_MO_badTag 9 = .ok (.iload_n 1, 1) := by decide +kernel
theorem d_MO_badTag_10 : decode b_MO_badTag 10 = .ok (.ifCond .lt 8, 3) := by decide +kernel
theorem d_MO_badTag_13 : decode b_MO_badTag 13 = .ok (.iload_n 1, 1) := by decide +kernel
theorem d_MO_badTag_14 : decode b_MO_badTag 14 = .ok (.iconst 5, 1) := by decide +kernel
theorem d_MO_badTag_15 : decode b_MO_badTag 15 = .ok (.if_icmp .le 7, 3) := by decide +kernel
theorem d_MO_badTag_18 : decode b_MO_badTag 18 = .ok (.iconst 1, 1) := by decide +kernel
theorem d_MO_badTag_19 : decode b_MO_badTag 19 = .ok (.goto 4, 3) := by decide +kernel
theorem d_MO_badTag_22 : decode b_MO_badTag 22 = .ok (.iconst 0, 1) := by decide +kernel
theorem d_MO_badTag_23 : decode b_MO_badTag 23 = .ok (.ireturn, 1) := by decide +kernel
theorem d_MO_untag_0 : decode b_MO_untag 0 = .ok (.iload_n 1, 1) := by decide +kernel
theorem d_MO_untag_1 : decode b_MO_untag 1 = .ok (.iload_n 2, 1) := by decide +kernel
theorem d_MO_untag_2 : decode b_MO_untag 2 = .ok (.invokestatic 133, 3) := by decide +kernel
theorem d_MO_untag_5 : decode b_MO_untag 5 = .ok (.ifCond .ne 19, 3) := by decide +kernel
theorem d_MO_untag_8 : decode b_MO_untag 8 = .ok (.aload_n 0, 1) := by decide +kernel
theorem d_MO_untag_9 : decode b_MO_untag 9 = .ok (.getfield 25, 3) := by decide +kernel
theorem d_MO_untag_12 : decode b_MO_untag 12 = .ok (.bipush 6, 2) := by decide +kernel
theorem d_MO_untag_14 : decode b_MO_untag 14 = .ok (.iload_n 1, 1) := by decide +kernel
theorem d_MO_untag_15 : decode b_MO_untag 15 = .ok (.imul, 1) := by decide +kernel
theorem d_MO_untag_16 : decode b_MO_untag 16 = .ok (.iload_n 2, 1) := by decide +kernel
theorem d_MO_untag_17 : decode b_MO_untag 17 = .ok (.iadd, 1) := by decide +kernel
theorem d_MO_untag_18 : decode b_MO_untag 18 = .ok (.iaload, 1) := by decide +kernel
theorem d_MO_untag_19 : decode b_MO_untag 19 = .ok (.bipush 40, 2) := by decide +kernel
theorem d_MO_untag_21 : decode b_MO_untag 21 = .ok (.if_icmp .ne 5, 3) := by decide +kernel
theorem d_MO_untag_24 : decode b_MO_untag 24 = .ok (.iconst (-1), 1) := by decide +kernel
theorem d_MO_untag_25 : decode b_MO_untag 25 = .ok (.ireturn, 1) := by decide +kernel
theorem d_MO_untag_26 : decode b_MO_untag 26 = .ok (.aload_n 0, 1) := by decide +kernel
theorem d_MO_untag_27 : decode b_MO_untag 27 = .ok (.getfield 25, 3) := by decide +kernel
theorem d_MO_untag_30 : decode b_MO_untag 30 = .ok (.bipush 6, 2) := by decide +kernel
theorem d_MO_untag_32 : decode b_MO_untag 32 = .ok (.iload_n 1, 1) := by decide +kernel
theorem d_MO_untag_33 : decode b_MO_untag 33 = .ok (.imul, 1) := by decide +kernel
theorem d_MO_untag_34 : decode b_MO_untag 34 = .ok (.iload_n 2, 1) := by decide +kernel
theorem d_MO_untag_35 : decode b_MO_untag 35 = .ok (.iadd, 1) := by decide +kernel
theorem d_MO_untag_36 : decode b_MO_untag 36 = .ok (.iaload, 1) := by decide +kernel
theorem d_MO_untag_37 : decode b_MO_untag 37 = .ok (.istore_n 3, 1) := by decide +kernel
theorem d_MO_untag_38 : decode b_MO_untag 38 = .ok (.aload_n 0, 1) := by decide +kernel
theorem d_MO_untag_39 : decode b_MO_untag 39 = .ok (.getfield 25, 3) := by decide +kernel
theorem d_MO_untag_42 : decode b_MO_untag 42 = .ok (.bipush 6, 2) := by decide +kernel
theorem d_MO_untag_44 : decode b_MO_untag 44 = .ok (.iload_n 1, 1) := by decide +kernel
theorem d_MO_untag_45 : decode b_MO_untag 45 = .ok (.imul, 1) := by decide +kernel
theorem d_MO_untag_46 : decode b_MO_untag 46 = .ok (.iload_n 2, 1) := by decide +kernel
theorem d_MO_untag_47 : decode b_MO_untag 47 = .ok (.iadd, 1) := by decide +kernel
theorem d_MO_untag_48 : decode b_MO_untag 48 = .ok (.bipush 40, 2) := by decide +kernel
theorem d_MO_untag_50 : decode b_MO_untag 50 = .ok (.iastore, 1) := by decide +kernel
theorem d_MO_untag_51 : decode b_MO_untag 51 = .ok (.iload_n 3, 1) := by decide +kernel
theorem d_MO_untag_52 : decode b_MO_untag 52 = .ok (.ireturn, 1) := by decide +kernel
theorem d_MO_send_0 : decode b_MO_send 0 = .ok (.iload_n 1, 1) := by decide +kernel
theorem d_MO_send_1 : decode b_MO_send 1 = .ok (.iload_n 2, 1) := by decide +kernel
theorem d_MO_send_2 : decode b_MO_send 2 = .ok (.invokestatic 133, 3) := by decide +kernel
theorem d_MO_send_5 : decode b_MO_send 5 = .ok (.ifCond .ne 19, 3) := by decide +kernel
theorem d_MO_send_8 : decode b_MO_send 8 = .ok (.aload_n 0, 1) := by decide +kernel
theorem d_MO_send_9 : decode b_MO_send 9 = .ok (.getfield 25, 3) := by decide +kernel
theorem d_MO_send_12 : decode b_MO_send 12 = .ok (.bipush 6, 2) := by decide +kernel
theorem d_MO_send_14 : decode b_MO_send 14 = .ok (.iload_n 1, 1) := by decide +kernel
theorem d_MO_send_15 : decode b_MO_send 15 = .ok (.imul, 1) := by decide +kernel
theorem d_MO_send_16 : decode b_MO_send 16 = .ok (.iload_n 2, 1) := by decide +kernel
theorem d_MO_send_17 : decode b_MO_send 17 = .ok (.iadd, 1) := by decide +kernel
theorem d_MO_send_18 : decode b_MO_send 18 = .ok (.iaload, 1) := by decide +kernel
theorem d_MO_send_19 : decode b_MO_send 19 = .ok (.bipush 40, 2) := by decide +kernel
theorem d_MO_send_21 : decode b_MO_send 21 = .ok (.if_icmp .ne 5, 3) := by decide +kernel
theorem d_MO_send_24 : decode b_MO_send 24 = .ok (.iconst (-1), 1) := by decide +kernel
theorem d_MO_send_25 : decode b_MO_send 25 = .ok (.ireturn, 1) := by decide +kernel
theorem d_MO_send_26 : decode b_MO_send 26 = .ok (.aload_n 0, 1) := by decide +kernel
theorem d_MO_send_27 : decode b_MO_send 27 = .ok (.getfield 25, 3) := by decide +kernel
theorem d_MO_send_30 : decode b_MO_send 30 = .ok (.bipush 6, 2) := by decide +kernel
theorem d_MO_send_32 : decode b_MO_send 32 = .ok (.iload_n 1, 1) := by decide +kernel
theorem d_MO_send_33 : decode b_MO_send 33 = .ok (.imul, 1) := by decide +kernel
theorem d_MO_send_34 : decode b_MO_send 34 = .ok (.iload_n 2, 1) := by decide +kernel
theorem d_MO_send_35 : decode b_MO_send 35 = .ok (.iadd, 1) := by decide +kernel
theorem d_MO_send_36 : decode b_MO_send 36 = .ok (.iaload, 1) := by decide +kernel
theorem d_MO_send_37 : decode b_MO_send 37 = .ok (.istore_n 3, 1) := by decide +kernel
theorem d_MO_send_38 : decode b_MO_send 38 = .ok (.aload_n 0, 1) := by decide +kernel
theorem d_MO_send_39 : decode b_MO_send 39 = .ok (.iconst 1, 1) := by decide +kernel
theorem d_MO_send_40 : decode b_MO_send 40 = .ok (.iload_n 1, 1) := by decide +kernel
theorem d_MO_send_41 : decode b_MO_send 41 = .ok (.isub, 1) := by decide +kernel
theorem d_MO_send_42 : decode b_MO_send 42 = .ok (.invokevirtual 136, 3) := by decide +kernel
theorem d_MO_send_45 : decode b_MO_send 45 = .ok (.aload_n 0, 1) := by decide +kernel
theorem d_MO_send_46 : decode b_MO_send 46 = .ok (.iconst 0, 1) := by decide +kernel
theorem d_MO_send_47 : decode b_MO_send 47 = .ok (.invokevirtual 139, 3) := by decide +kernel
theorem d_MO_send_50 : decode b_MO_send 50 = .ok (.istore 4, 2) := by decide +kernel
theorem d_MO_send_52 : decode b_MO_send 52 = .ok (.aload_n 0, 1) := by decide +kernel
theorem d_MO_send_53 : decode b_MO_send 53 = .ok (.iload_n 3, 1) := by decide +kernel
theorem d_MO_send_54 : decode b_MO_send 54 = .ok (.invokevirtual 121, 3) := by decide +kernel
theorem d_MO_send_57 : decode b_MO_send 57 = .ok (.aload_n 0, 1) := by decide +kernel
theorem d_MO_send_58 : decode b_MO_send 58 = .ok (.iconst 0, 1) := by decide +kernel
theorem d_MO_send_59 : decode b_MO_send 59 = .ok (.invokevirtual 139, 3) := by decide +kernel
theorem d_MO_send_62 : decode b_MO_send 62 = .ok (.istore 5, 2) := by decide +kernel
theorem d_MO_send_64 : decode b_MO_send 64 = .ok (.aload_n 0, 1) := by decide +kernel
theorem d_MO_send_65 : decode b_MO_send 65 = .ok (.getfield 21, 3) := by decide +kernel
theorem d_MO_send_68 : decode b_MO_send 68 = .ok (.bipush 40, 2) := by decide +kernel
theorem d_MO_send_70 : decode b_MO_send 70 = .ok (.iconst 1, 1) := by decide +kernel
theorem d_MO_send_71 : decode b_MO_send 71 = .ok (.iload_n 1, 1) := by decide +kernel
theorem d_MO_send_72 : decode b_MO_send 72 = .ok (.isub, 1) := by decide +kernel
theorem d_MO_send_73 : decode b_MO_send 73 = .ok (.imul, 1) := by decide +kernel
theorem d_MO_send_74 : decode b_MO_send 74 = .ok (.iload_n 3, 1) := by decide +kernel
theorem d_MO_send_75 : decode b_MO_send 75 = .ok (.iadd, 1) := by decide +kernel
theorem d_MO_send_76 : decode b_MO_send 76 = .ok (.iconst 1, 1) := by decide +kernel
theorem d_MO_send_77 : decode b_MO_send 77 = .ok (.bastore, 1) := by decide +kernel
theorem d_MO_send_78 : decode b_MO_send 78 = .ok (.aload_n 0, 1) := by decide +kernel
theorem d_MO_send_79 : decode b_MO_send 79 = .ok (.getfield 25, 3) := by decide +kernel
theorem d_MO_send_82 : decode b_MO_send 82 = .ok (.bipush 6, 2) := by decide +kernel
theorem d_MO_send_84 : decode b_MO_send 84 = .ok (.iconst 1, 1) := by decide +kernel
theorem d_MO_send_85 : decode b_MO_send 85 = .ok (.iload_n 1, 1) := by decide +kernel
theorem d_MO_send_86 : decode b_MO_send 86 = .ok (.isub, 1) := by decide +kernel
theorem d_MO_send_87 : decode b_MO_send 87 = .ok (.imul, 1) := by decide +kernel
theorem d_MO_send_88 : decode b_MO_send 88 = .ok (.iload_n 2, 1) := by decide +kernel
theorem d_MO_send_89 : decode b_MO_send 89 = .ok (.iadd, 1) := by decide +kernel
theorem d_MO_send_90 : decode b_MO_send 90 = .ok (.iload_n 3, 1) := by decide +kernel
theorem d_MO_send_91 : decode b_MO_send 91 = .ok (.iastore, 1) := by decide +kernel
theorem d_MO_send_92 : decode b_MO_send 92 = .ok (.iload 5, 2) := by decide +kernel
theorem d_MO_send_94 : decode b_MO_send 94 = .ok (.iload 4, 2) := by decide +kernel
theorem d_MO_send_96 : decode b_MO_send 96 = .ok (.isub, 1) := by decide +kernel
theorem d_MO_send_97 : decode b_MO_send 97 = .ok (.ireturn, 1) := by decide +kernel
theorem d_MO_chooseHeld_0 : decode b_MO_chooseHeld 0 = .ok (.aload_n 0, 1) := by decide +kernel
theorem d_MO_chooseHeld_1 : decode b_MO_chooseHeld 1 = .ok (.invokevirtual 118, 3) := by decide +kernel
theorem d_MO_chooseHeld_4 : decode b_MO_chooseHeld 4 = .ok (.iconst 0, 1) := by decide +kernel
theorem d_MO_chooseHeld_5 : decode b_MO_chooseHeld 5 = .ok (.istore_n 2, 1) := by decide +kernel
theorem d_MO_chooseHeld_6 : decode b_MO_chooseHeld 6 = .ok (.iload_n 2, 1) := by decide +kernel
theorem d_MO_chooseHeld_7 : decode b_MO_chooseHeld 7 = .ok (.aload_n 0, 1) := by decide +kernel
theorem d_MO_chooseHeld_8 : decode b_MO_chooseHeld 8 = .ok (.getfield 17, 3) := by decide +kernel
theorem d_MO_chooseHeld_11 : decode b_MO_chooseHeld 11 = .ok (.if_icmp .ge 28, 3) := by decide +kernel
theorem d_MO_chooseHeld_14 : decode b_MO_chooseHeld 14 = .ok (.aload_n 0, 1) := by decide +kernel
theorem d_MO_chooseHeld_15 : decode b_MO_chooseHeld 15 = .ok (.getfield 21, 3) := by decide +kernel

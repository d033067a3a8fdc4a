theorem d_MO_entryPath_55 : decode b_MO_entryPath 55 = .ok (.iload 6, 2) := by decide +kernel
theorem d_MO_entryPath_57 : decode b_MO_entryPath 57 = .ok (.invokevirtual 111, 3) := by decide +kernel
theorem d_MO_entryPath_60 : decode b_MO_entryPath 60 = .ok (.ldc2_w 107, 3) := by decide +kernel
theorem d_MO_entryPath_63 : decode b_MO_entryPath 63 = .ok (.lcmp, 1) := by decide +kernel
theorem d_MO_entryPath_64 : decode b_MO_entryPath 64 = .ok (.ifCond .ne 6, 3) := by decide +kernel
theorem d_MO_entryPath_67 : decode b_MO_entryPath 67 = .ok (.goto 14, 3) := by decide +kernel
theorem d_MO_entryPath_70 : decode b_MO_entryPath 70 = .ok (.iload 5, 2) := by decide +kernel
theorem d_MO_entryPath_72 : decode b_MO_entryPath 72 = .ok (.ifCond .ne 6, 3) := by decide +kernel
theorem d_MO_entryPath_75 : decode b_MO_entryPath 75 = .ok (.iload 6, 2) := by decide +kernel
theorem d_MO_entryPath_77 : decode b_MO_entryPath 77 = .ok (.ireturn, 1) := by decide +kernel
theorem d_MO_entryPath_78 : decode b_MO_entryPath 78 = .ok (.iinc 5 (-1), 3) := by decide +kernel
theorem d_MO_entryPath_81 : decode b_MO_entryPath 81 = .ok (.iinc 6 1, 3) := by decide +kernel
theorem d_MO_entryPath_84 : decode b_MO_entryPath 84 = .ok (.goto (-47), 3) := by decide +kernel
theorem d_MO_entryPath_87 : decode b_MO_entryPath 87 = .ok (.iconst (-1), 1) := by decide +kernel
theorem d_MO_entryPath_88 : decode b_MO_entryPath 88 = .ok (.ireturn, 1) := by decide +kernel
theorem d_MO_entryMark_0 : decode b_MO_entryMark 0 = .ok (.aload_n 0, 1) := by decide +kernel
theorem d_MO_entryMark_1 : decode b_MO_entryMark 1 = .ok (.iload_n 1, 1) := by decide +kernel
theorem d_MO_entryMark_2 : decode b_MO_entryMark 2 = .ok (.iload_n 2, 1) := by decide +kernel
theorem d_MO_entryMark_3 : decode b_MO_entryMark 3 = .ok (.iload_n 3, 1) := by decide +kernel
theorem d_MO_entryMark_4 : decode b_MO_entryMark 4 = .ok (.invokevirtual 146, 3) := by decide +kernel
theorem d_MO_entryMark_7 : decode b_MO_entryMark 7 = .ok (.istore 4, 2) := by decide +kernel
theorem d_MO_entryMark_9 : decode b_MO_entryMark 9 = .ok (.iload 4, 2) := by decide +kernel
theorem d_MO_entryMark_11 : decode b_MO_entryMark 11 = .ok (.iconst (-1), 1) := by decide +kernel
theorem d_MO_entryMark_12 : decode b_MO_entryMark 12 = .ok (.if_icmp .ne 9, 3) := by decide +kernel
theorem d_MO_entryMark_15 : decode b_MO_entryMark 15 = .ok (.ldc2_w 107, 3) := by decide +kernel
theorem d_MO_entryMark_18 : decode b_MO_entryMark 18 = .ok (.goto 15, 3) := by decide +kernel
theorem d_MO_entryMark_21 : decode b_MO_entryMark 21 = .ok (.aload_n 0, 1) := by decide +kernel
theorem d_MO_entryMark_22 : decode b_MO_entryMark 22 = .ok (.aload_n 0, 1) := by decide +kernel
theorem d_MO_entryMark_23 : decode b_MO_entryMark 23 = .ok (.iload_n 1, 1) := by decide +kernel
theorem d_MO_entryMark_24 : decode b_MO_entryMark 24 = .ok (.iload_n 2, 1) := by decide +kernel
theorem d_MO_entryMark_25 : decode b_MO_entryMark 25 = .ok (.invokevirtual 143, 3) := by decide +kernel
theorem d_MO_entryMark_28 : decode b_MO_entryMark 28 = .ok (.iload 4, 2) := by decide +kernel
theorem d_MO_entryMark_30 : decode b_MO_entryMark 30 = .ok (.invokevirtual 111, 3) := by decide +kernel
theorem d_MO_entryMark_33 : decode b_MO_entryMark 33 = .ok (.lreturn, 1) := by decide +kernel
theorem d_MO_common_0 : decode b_MO_common 0 = .ok (.aload_n 0, 1) := by decide +kernel
theorem d_MO_common_1 : decode b_MO_common 1 = .ok (.iload_n 1, 1) := by decide +kernel
theorem d_MO_common_2 : decode b_MO_common 2 = .ok (.invokevirtual 50, 3) := by decide +kernel
theorem d_MO_common_5 : decode b_MO_common 5 = .ok (.ifCond .eq 11, 3) := by decide +kernel
theorem d_MO_common_8 : decode b_MO_common 8 = .ok (.aload_n 0, 1) := by decide +kernel
theorem d_MO_common_9 : decode b_MO_common 9 = .ok (.iload_n 2, 1) := by decide +kernel
theorem d_MO_common_10 : decode b_MO_common 10 = .ok (.invokevirtual 50, 3) := by decide +kernel
theorem d_MO_common_13 : decode b_MO_common 13 = .ok (.ifCond .ne 5, 3) := by decide +kernel
theorem d_MO_common_16 : decode b_MO_common 16 = .ok (.iconst (-1), 1) := by decide +kernel
theorem d_MO_common_17 : decode b_MO_common 17 = .ok (.ireturn, 1) := by decide +kernel
theorem d_MO_common_18 : decode b_MO_common 18 = .ok (.iconst 0, 1) := by decide +kernel
theorem d_MO_common_19 : decode b_MO_common 19 = .ok (.istore_n 3, 1) := by decide +kernel
theorem d_MO_common_20 : decode b_MO_common 20 = .ok (.aload_n 0, 1) := by decide +kernel
theorem d_MO_common_21 : decode b_MO_common 21 = .ok (.iload_n 1, 1) := by decide +kernel
theorem d_MO_common_22 : decode b_MO_common 22 = .ok (.iload_n 3, 1) := by decide +kernel
theorem d_MO_common_23 : decode b_MO_common 23 = .ok (.invokevirtual 143, 3) := by decide +kernel
theorem d_MO_common_26 : decode b_MO_common 26 = .ok (.ifCond .eq 37, 3) := by decide +kernel
theorem d_MO_common_29 : decode b_MO_common 29 = .ok (.aload_n 0, 1) := by decide +kernel
theorem d_MO_common_30 : decode b_MO_common 30 = .ok (.iload_n 2, 1) := by decide +kernel
theorem d_MO_common_31 : decode b_MO_common 31 = .ok (.iload_n 3, 1) := by decide +kernel
theorem d_MO_common_32 : decode b_MO_common 32 = .ok (.invokevirtual 143, 3) := by decide +kernel
theorem d_MO_common_35 : decode b_MO_common 35 = .ok (.ifCond .eq 28, 3) := by decide +kernel
theorem d_MO_common_38 : decode b_MO_common 38 = .ok (.aload_n 0, 1) := by decide +kernel
theorem d_MO_common_39 : decode b_MO_common 39 = .ok (.aload_n 0, 1) := by decide +kernel
theorem d_MO_common_40 : decode b_MO_common 40 = .ok (.iload_n 1, 1) := by decide +kernel
theorem d_MO_common_41 : decode b_MO_common 41 = .ok (.iload_n 3, 1) := by decide +kernel
theorem d_MO_common_42 : decode b_MO_common 42 = .ok (.invokevirtual 143, 3) := by decide +kernel
theorem d_MO_common_45 : decode b_MO_common 45 = .ok (.aload_n 0, 1) := by decide +kernel
theorem d_MO_common_46 : decode b_MO_common 46 = .ok (.iload_n 2, 1) := by decide +kernel
theorem d_MO_common_47 : decode b_MO_common 47 = .ok (.iload_n 3, 1) := by decide +kernel
theorem d_MO_common_48 : decode b_MO_common 48 = .ok (.invokevirtual 143, 3) := by decide +kernel
theorem d_MO_common_51 : decode b_MO_common 51 = .ok (.invokevirtual 124, 3) := by decide +kernel
theorem d_MO_common_54 : decode b_MO_common 54 = .ok (.ifCond .eq 9, 3) := by decide +kernel
theorem d_MO_common_57 : decode b_MO_common 57 = .ok (.iinc 3 1, 3) := by decide +kernel
theorem d_MO_common_60 : decode b_MO_common 60 = .ok (.goto (-40), 3) := by decide +kernel
theorem d_MO_common_63 : decode b_MO_common 63 = .ok (.iload_n 3, 1) := by decide +kernel
theorem d_MO_common_64 : decode b_MO_common 64 = .ok (.ireturn, 1) := by decide +kernel
theorem d_MO_shared_0 : decode b_MO_shared 0 = .ok (.aload_n 0, 1) := by decide +kernel
theorem d_MO_shared_1 : decode b_MO_shared 1 = .ok (.iload_n 1, 1) := by decide +kernel
theorem d_MO_shared_2 : decode b_MO_shared 2 = .ok (.invokevirtual 50, 3) := by decide +kernel
theorem d_MO_shared_5 : decode b_MO_shared 5 = .ok (.ifCond .eq 11, 3) := by decide +kernel
theorem d_MO_shared_8 : decode b_MO_shared 8 = .ok (.aload_n 0, 1) := by decide +kernel
theorem d_MO_shared_9 : decode b_MO_shared 9 = .ok (.iload_n 2, 1) := by decide +kernel
theorem d_MO_shared_10 : decode b_MO_shared 10 = .ok (.invokevirtual 50, 3) := by decide +kernel
theorem d_MO_shared_13 : decode b_MO_shared 13 = .ok (.ifCond .ne 5, 3) := by decide +kernel
theorem d_MO_shared_16 : decode b_MO_shared 16 = .ok (.iconst (-1), 1) := by decide +kernel
theorem d_MO_shared_17 : decode b_MO_shared 17 = .ok (.ireturn, 1) := by decide +kernel
theorem d_MO_shared_18 : decode b_MO_shared 18 = .ok (.aload_n 0, 1) := by decide +kernel
theorem d_MO_shared_19 : decode b_MO_shared 19 = .ok (.invokevirtual 118, 3) := by decide +kernel
theorem d_MO_shared_22 : decode b_MO_shared 22 = .ok (.aload_n 0, 1) := by decide +kernel
theorem d_MO_shared_23 : decode b_MO_shared 23 = .ok (.iload_n 2, 1) := by decide +kernel
theorem d_MO_shared_24 : decode b_MO_shared 24 = .ok (.invokevirtual 121, 3) := by decide +kernel
theorem d_MO_shared_27 : decode b_MO_shared 27 = .ok (.iconst 0, 1) := by decide +kernel
theorem d_MO_shared_28 : decode b_MO_shared 28 = .ok (.istore_n 3, 1) := by decide +kernel
theorem d_MO_shared_29 : decode b_MO_shared 29 = .ok (.iload_n 1, 1) := by decide +kernel
theorem d_MO_shared_30 : decode b_MO_shared 30 = .ok (.istore 4, 2) := by decide +kernel
theorem d_MO_shared_32 : decode b_MO_shared 32 = .ok (.iload 4, 2) := by decide +kernel
theorem d_MO_shared_34 : decode b_MO_shared 34 = .ok (.ifCond .eq 31, 3) := by decide +kernel
theorem d_MO_shared_37 : decode b_MO_shared 37 = .ok (.aload_n 0, 1) := by decide +kernel
theorem d_MO_shared_38 : decode b_MO_shared 38 = .ok (.iload 4, 2) := by decide +kernel
theorem d_MO_shared_40 : decode b_MO_shared 40 = .ok (.aload_n 0, 1) := by decide +kernel
theorem d_MO_shared_41 : decode b_MO_shared 41 = .ok (.getfield 17, 3) := by decide +kernel
theorem d_MO_shared_44 : decode b_MO_shared 44 = .ok (.invokevirtual 127, 3) := by decide +kernel
theorem d_MO_shared_47 : decode b_MO_shared 47 = .ok (.ifCond .eq 6, 3) := by decide +kernel
theorem d_MO_shared_50 : decode b_MO_shared 50 = .ok (.iinc 3 1, 3) := by decide +kernel
theorem d_MO_shared_53 : decode b_MO_shared 53 = .ok (.aload_n 0, 1) := by decide +kernel
theorem d_MO_shared_54 : decode b_MO_shared 54 = .ok (.getfield 7, 3) := by decide +kernel
theorem d_MO_shared_57 : decode b_MO_shared 57 = .ok (.iload 4, 2) := by decide +kernel
theorem d_MO_shared_59 : decode b_MO_shared 59 = .ok (.iaload, 1) := by decide +kernel
theorem d_MO_shared_60 : decode b_MO_shared 60 = .ok (.istore 4, 2) := by decide +kernel
theorem d_MO_shared_62 : decode b_MO_shared 62 = .ok (.goto (-30), 3) := by decide +kernel
theorem d_MO_shared_65 : decode b_MO_shared 65 = .ok (.iload_n 3, 1) := by decide +kernel
theorem d_MO_shared_66 : decode b_MO_shared 66 = .ok (.ireturn, 1) := by decide +kernel
theorem d_MO_count_0 : decode b_MO_count 0 = .ok (.iload_n 1, 1) := by decide +kernel
theorem d_MO_count_1 : decode b_MO_count 1 = .ok (.ifCond .ne 8, 3) := by decide +kernel
theorem d_MO_count_4 : decode b_MO_count 4 = .ok (.aload_n 0, 1) := by decide +kernel
theorem d_MO_count_5 : decode b_MO_count 5 = .ok (.getfield 17, 3) := by decide +kernel
theorem d_MO_count_8 : decode b_MO_count 8 = .ok (.ireturn, 1) := by decide +kernel
theorem d_MO_count_9 : decode b_MO_count 9 = .ok (.iload_n 1, 1) := by decide +kernel
theorem d_MO_count_10 : decode b_MO_count 10 = .ok (.iconst 5, 1) := by decide +kernel
theorem d_MO_count_11 : decode b_MO_count 11 = .ok (.if_icmp .ne 8, 3) := by decide +kernel
theorem d_MO_count_14 : decode b_MO_count 14 = .ok (.aload_n 0, 1) := by decide +kernel
theorem d_MO_count_15 : decode b_MO_count 15 = .ok (.getfield 84, 3) := by decide +kernel
theorem d_MO_count_18 : decode b_MO_count 18 = .ok (.ireturn, 1) := by decide +kernel
theorem d_MO_count_19 : decode b_MO_count 19 = .ok (.iload_n 1, 1) := by decide +kernel
theorem d_MO_count_20 : decode b_MO_count 20 = .ok (.ifCond .lt 8, 3) := by decide +kernel
theorem d_MO_count_23 : decode b_MO_count 23 = .ok (.iload_n 1, 1) := by decide +kernel
theorem d_MO_count_24 : decode b_MO_count 24 = .ok (.iconst 5, 1) := by decide +kernel
theorem d_MO_count_25 : decode b_MO_count 25 = .ok (.if_icmp .le 5, 3) := by decide +kernel
theorem d_MO_count_28 : decode b_MO_count 28 = .ok (.iconst (-1), 1) := by decide +kernel
theorem d_MO_count_29 : decode b_MO_count 29 = .ok (.ireturn, 1) := by decide +kernel
theorem d_MO_count_30 : decode b_MO_count 30 = .ok (.aload_n 0, 1) := by decide +kernel
theorem d_MO_count_31 : decode b_MO_count 31 = .ok (.iload_n 1, 1) := by decide +kernel
theorem d_MO_count_32 : decode b_MO_count 32 = .ok (.iconst 1, 1) := by decide +kernel
theorem d_MO_count_33 : decode b_MO_count 33 = .ok (.isub, 1) := by decide +kernel
theorem d_MO_count_34 : decode b_MO_count 34 = .ok (.iconst 2, 1) := by decide +kernel
theorem d_MO_count_35 : decode b_MO_count 35 = .ok (.irem, 1) := by decide +kernel
theorem d_MO_count_36 : decode b_MO_count 36 = .ok (.invokevirtual 136, 3) := by decide +kernel
theorem d_MO_count_39 : decode b_MO_count 39 = .ok (.aload_n 0, 1) := by decide +kernel
theorem d_MO_count_40 : decode b_MO_count 40 = .ok (.iload_n 1, 1) := by decide +kernel
theorem d_MO_count_41 : decode b_MO_count 41 = .ok (.iconst 2, 1) := by decide +kernel
theorem d_MO_count_42 : decode b_MO_count 42 = .ok (.if_icmp .le 7, 3) := by decide +kernel
theorem d_MO_count_45 : decode b_MO_count 45 = .ok (.iconst 1, 1) := by decide +kernel
theorem d_MO_count_46 : decode b_MO_count 46 = .ok (.goto 4, 3) := by decide +kernel
theorem d_MO_count_49 : decode b_MO_count 49 = .ok (.iconst 0, 1) := by decide +kernel
theorem d_MO_count_50 : decode b_MO_count 50 = .ok (.invokevirtual 139, 3) := by decide +kernel
theorem d_MO_count_53 : decode b_MO_count 53 = .ok (.ireturn, 1) := by decide +kernel
theorem d_LW_law_0 : decode b_LW_law 0 = .ok (.new 7, 3) := by decide +kernel
theorem d_LW_law_3 : decode b_LW_law 3 = .ok (.dup, 1) := by decide +kernel
theorem d_LW_law_4 : decode b_LW_law 4 = .ok (.invokespecial 9, 3) := by decide +kernel
theorem d_LW_law_7 : decode b_LW_law 7 = .ok (.astore_n 1, 1) := by decide +kernel
theorem d_LW_law_8 : decode b_LW_law 8 = .ok (.new 10, 3) := by decide +kernel
theorem d_LW_law_11 : decode b_LW_law 11 = .ok (.dup, 1) := by decide +kernel
theorem d_LW_law_12 : decode b_LW_law 12 = .ok (.invokespecial 12, 3) := by decide +kernel
theorem d_LW_law_15 : decode b_LW_law 15 = .ok (.astore_n 2, 1) := by decide +kernel
theorem d_LW_law_16 : decode b_LW_law 16 = .ok (.iconst 0, 1) := by decide +kernel
theorem d_LW_law_17 : decode b_LW_law 17 = .ok (.istore_n 3, 1) := by decide +kernel
theorem d_LW_law_18 : decode b_LW_law 18 = .ok (.iload_n 3, 1) := by decide +kernel
theorem d_LW_law_19 : decode b_LW_law 19 = .ok (.aload_n 0, 1) := by decide +kernel
theorem d_LW_law_20 : decode b_LW_law 20 = .ok (.arraylength, 1) := by decide +kernel
theorem d_LW_law_21 : decode b_LW_law 21 = .ok (.iconst 5, 1) := by decide +kernel
theorem d_LW_law_22 : decode b_LW_law 22 = .ok (.isub, 1) := by decide +kernel
theorem d_LW_law_23 : decode b_LW_law 23 = .ok (.if_icmp .gt 672, 3) := by decide +kernel
theorem d_LW_law_26 : decode b_LW_law 26 = .ok (.aload_n 0, 1) := by decide +kernel
theorem d_LW_law_27 : decode b_LW_law 27 = .ok (.iload_n 3, 1) := by decide +kernel
theorem d_LW_law_28 : decode b_LW_law 28 = .ok (.iaload, 1) := by decide +kernel
theorem d_LW_law_29 : decode b_LW_law 29 = .ok (.bipush 31, 2) := by decide +kernel
theorem d_LW_law_31 : decode b_LW_law 31 = .ok (.iand, 1) := by decide +kernel
theorem d_LW_law_32 : decode b_LW_law 32 = .ok (.tableswitch 657 0 16 #[84, 137, 160, 203, 236, 269, 292, 325, 358, 392, 425, 448, 481, 524, 568, 601, 634], 84) := by decide +kernel
theorem d_LW_law_116 : decode b_LW_law 116 = .ok (.aload_n 1, 1) := by decide +kernel
theorem d_LW_law_117 : decode b_LW_law 117 = .ok (.aload_n 0, 1) := by decide +kernel
theorem d_LW_law_118 : decode b_LW_law 118 = .ok (.iload_n 3, 1) := by decide +kernel
theorem d_LW_law_119 : decode b_LW_law 119 = .ok (.iconst 1, 1) := by decide +kernel
theorem d_LW_law_120 : decode b_LW_law 120 = .ok (.iadd, 1) := by decide +kernel
theorem d_LW_law_121 : decode b_LW_law 121 = .ok (.iaload, 1) := by decide +kernel
theorem d_LW_law_122 : decode b_LW_law 122 = .ok (.aload_n 0, 1) := by decide +kernel
theorem d_LW_law_123 : decode b_LW_law 123 = .ok (.iload_n 3, 1) := by decide +kernel
theorem d_LW_law_124 : decode b_LW_law 124 = .ok (.iconst 2, 1) := by decide +kernel
theorem d_LW_law_125 : decode b_LW_law 125 = .ok (.iadd, 1) := by decide +kernel
theorem d_LW_law_126 : decode b_LW_law 126 = .ok (.iaload, 1) := by decide +kernel
theorem d_LW_law_127 : decode b_LW_law 127 = .ok (.aload_n 0, 1) := by decide +kernel
theorem d_LW_law_128 : decode b_LW_law 128 = .ok (.iload_n 3, 1) := by decide +kernel
theorem d_LW_law_129 : decode b_LW_law 129 = .ok (.iconst 3, 1) := by decide +kernel
theorem d_LW_law_130 : decode b_LW_law 130 = .ok (.iadd, 1) := by decide +kernel
theorem d_LW_law_131 : decode b_LW_law 131 = .ok (.iaload, 1) := by decide +kernel
theorem d_LW_law_132 : decode b_LW_law 132 = .ok (.aload_n 0, 1) := by decide +kernel
theorem d_LW_law_133 : decode b_LW_law 133 = .ok (.iload_n 3, 1) := by decide +kernel
theorem d_LW_law_134 : decode b_LW_law 134 = .ok (.iconst 4, 1) := by decide +kernel
theorem d_LW_law_135 : decode b_LW_law 135 = .ok (.iadd, 1) := by decide +kernel
theorem d_LW_law_136 : decode b_LW_law 136 = .ok (.iaload, 1) := by decide +kernel
theorem d_LW_law_137 : decode b_LW_law 137 = .ok (.invokevirtual 13, 3) := by decide +kernel
theorem d_LW_law_140 : decode b_LW_law 140 = .ok (.aload_n 2, 1) := by decide +kernel
theorem d_LW_law_141 : decode b_LW_law 141 = .ok (.aload_n 0, 1) := by decide +kernel
theorem d_LW_law_142 : decode b_LW_law 142 = .ok (.iload_n 3, 1) := by decide +kernel
theorem d_LW_law_143 : decode b_LW_law 143 = .ok (.iconst 1, 1) := by decide +kernel
theorem d_LW_law_144 : decode b_LW_law 144 = .ok (.iadd, 1) := by decide +kernel
theorem d_LW_law_145 : decode b_LW_law 145 = .ok (.iaload, 1) := by decide +kernel
theorem d_LW_law_146 : decode b_LW_law 146 = .ok (.aload_n 0, 1) := by decide +kernel
theorem d_LW_law_147 : decode b_LW_law 147 = .ok (.iload_n 3, 1) := by decide +kernel
theorem d_LW_law_148 : decode b_LW_law 148 = .ok (.iconst 2, 1) := by decide +kernel
theorem d_LW_law_149 : decode b_LW_law 149 = .ok (.iadd, 1) := by decide +kernel
theorem d_LW_law_150 : decode b_LW_law 150 = .ok (.iaload, 1) := by decide +kernel
theorem d_LW_law_151 : decode b_LW_law 151 = .ok (.aload_n 0, 1) := by decide +kernel
theorem d_LW_law_152 : decode b_LW_law 152 = .ok (.iload_n 3, 1) := by decide +kernel
theorem d_LW_law_153 : decode b_LW_law 153 = .ok (.iconst 3, 1) := by decide +kernel
theorem d_LW_law_154 : decode b_LW_law 154 = .ok (.iadd, 1) := by decide +kernel
theorem d_LW_law_155 : decode b_LW_law 155 = .ok (.iaload, 1) := by decide +kernel
theorem d_LW_law_156 : decode b_LW_law 156 = .ok (.aload_n 0, 1) := by decide +kernel
theorem d_LW_law_157 : decode b_LW_law 157 = .ok (.iload_n 3, 1) := by decide +kernel
theorem d_LW_law_158 : decode b_LW_law 158 = .ok (.iconst 4, 1) := by decide +kernel
theorem d_LW_law_159 : decode b_LW_law 159 = .ok (.iadd, 1) := by decide +kernel
theorem d_LW_law_160 : decode b_LW_law 160 = .ok (.iaload, 1) := by decide +kernel
theorem d_LW_law_161 : decode b_LW_law 161 = .ok (.invokevirtual 17, 3) := by decide +kernel
theorem d_LW_law_164 : decode b_LW_law 164 = .ok (.if_icmp .eq 525, 3) := by decide +kernel
theorem d_LW_law_167 : decode b_LW_law 167 = .ok (.iconst 0, 1) := by decide +kernel
theorem d_LW_law_168 : decode b_LW_law 168 = .ok (.ireturn, 1) := by decide +kernel
theorem d_LW_law_169 : decode b_LW_law 169 = .ok (.aload_n 1, 1) := by decide +kernel
theorem d_LW_law_170 : decode b_LW_law 170 = .ok (.aload_n 0, 1) := by decide +kernel
theorem d_LW_law_171 : decode b_LW_law 171 = .ok (.iload_n 3, 1) := by decide +kernel
theorem d_LW_law_172 : decode b_LW_law 172 = .ok (.iconst 1, 1) := by decide +kernel
theorem d_LW_law_173 : decode b_LW_law 173 = .ok (.iadd, 1) := by decide +kernel
theorem d_LW_law_174 : decode b_LW_law 174 = .ok (.iaload, 1) := by decide +kernel
theorem d_LW_law_175 : decode b_LW_law 175 = .ok (.invokevirtual 18, 3) := by decide +kernel
theorem d_LW_law_178 : decode b_LW_law 178 = .ok (.aload_n 2, 1) := by decide +kernel
theorem d_LW_law_179 : decode b_LW_law 179 = .ok (.aload_n 0, 1) := by decide +kernel
theorem d_LW_law_180 : decode b_LW_law 180 = .ok (.iload_n 3, 1) := by decide +kernel
theorem d_LW_law_181 : decode b_LW_law 181 = .ok (.iconst 1, 1) := by decide +kernel
theorem d_LW_law_182 : decode b_LW_law 182 = .ok (.iadd, 1) := by decide +kernel
theorem d_LW_law_183 : decode b_LW_law 183 = .ok (.iaload, 1) := by decide +kernel
theorem d_LW_law_184 : decode b_LW_law 184 = .ok (.invokevirtual 22, 3) := by decide +kernel
theorem d_LW_law_187 : decode b_LW_law 187 = .ok (.if_icmp .eq 502, 3) := by decide +kernel
theorem d_LW_law_190 : decode b_LW_law 190 = .ok (.iconst 0, 1) := by decide +kernel
theorem d_LW_law_191 : decode b_LW_law 191 = .ok (.ireturn, 1) := by decide +kernel
theorem d_LW_law_192 : decode b_LW_law 192 = .ok (.aload_n 1, 1) := by decide +kernel
theorem d_LW_law_193 : decode b_LW_law 193 = .ok (.aload_n 0, 1) := by decide +kernel
theorem d_LW_law_194 : decode b_LW_law 194 = .ok (.iload_n 3, 1) := by decide +kernel
theorem d_LW_law_195 : decode b_LW_law 195 = .ok (.iconst 1, 1) := by decide +kernel
theorem d_LW_law_196 : decode b_LW_law 196 = .ok (.iadd, 1) := by decide +kernel
theorem d_LW_law_197 : decode b_LW_law 197 = .ok (.iaload, 1) := by decide +kernel
theorem d_LW_law_198 : decode b_LW_law 198 = .ok (.aload_n 0, 1) := by decide +kernel
theorem d_LW_law_199 : decode b_LW_law 199 = .ok (.iload_n 3, 1) := by decide +kernel
theorem d_LW_law_200 : decode b_LW_law 200 = .ok (.iconst 2, 1) := by decide +kernel
theorem d_LW_law_201 : decode b_LW_law 201 = .ok (.iadd, 1) := by decide +kernel
theorem d_LW_law_202 : decode b_LW_law 202 = .ok (.iaload, 1) := by decide +kernel
theorem d_LW_law_203 : decode b_LW_law 203 = .ok (.aload_n 0, 1) := by decide +kernel
theorem d_LW_law_204 : decode b_LW_law 204 = .ok (.iload_n 3, 1) := by decide +kernel
theorem d_LW_law_205 : decode b_LW_law 205 = .ok (.iconst 3, 1) := by decide +kernel
theorem d_LW_law_206 : decode b_LW_law 206 = .ok (.iadd, 1) := by decide +kernel
theorem d_LW_law_207 : decode b_LW_law 207 = .ok (.iaload, 1) := by decide +kernel
theorem d_LW_law_208 : decode b_LW_law 208 = .ok (.invokevirtual 23, 3) := by decide +kernel
theorem d_LW_law_211 : decode b_LW_law 211 = .ok (.aload_n 2, 1) := by decide +kernel
theorem d_LW_law_212 : decode b_LW_law 212 = .ok (.aload_n 0, 1) := by decide +kernel
theorem d_LW_law_213 : decode b_LW_law 213 = .ok (.iload_n 3, 1) := by decide +kernel
theorem d_LW_law_214 : decode b_LW_law 214 = .ok (.iconst 1, 1) := by decide +kernel
theorem d_LW_law_215 : decode b_LW_law 215 = .ok (.iadd, 1) := by decide +kernel
theorem d_LW_law_216 : decode b_LW_law 216 = .ok (.iaload, 1) := by decide +kernel
theorem d_LW_law_217 : decode b_LW_law 217 = .ok (.aload_n 0, 1) := by decide +kernel
theorem d_LW_law_218 : decode b_LW_law 218 = .ok (.iload_n 3, 1) := by decide +kernel
theorem d_LW_law_219 : decode b_LW_law 219 = .ok (.iconst 2, 1) := by decide +kernel
theorem d_LW_law_220 : decode b_LW_law 220 = .ok (.iadd, 1) := by decide +kernel
theorem d_LW_law_221 : decode b_LW_law 221 = .ok (.iaload, 1) := by decide +kernel
theorem d_LW_law_222 : decode b_LW_law 222 = .ok (.aload_n 0, 1) := by decide +kernel
theorem d_LW_law_223 : decode b_LW_law 223 = .ok (.iload_n 3, 1) := by decide +kernel
theorem d_LW_law_224 : decode b_LW_law 224 = .ok (.iconst 3, 1) := by decide +kernel
theorem d_LW_law_225 : decode b_LW_law 225 = .ok (.iadd, 1) := by decide +kernel
theorem d_LW_law_226 : decode b_LW_law 226 = .ok (.iaload, 1) := by decide +kernel
theorem d_LW_law_227 : decode b_LW_law 227 = .ok (.invokevirtual 27, 3) := by decide +kernel
theorem d_LW_law_230 : decode b_LW_law 230 = .ok (.if_icmp .eq 459, 3) := by decide +kernel
theorem d_LW_law_233 : decode b_LW_law 233 = .ok (.iconst 0, 1) := by decide +kernel
theorem d_LW_law_234 : decode b_LW_law 234 = .ok (.ireturn, 1) := by decide +kernel
theorem d_LW_law_235 : decode b_LW_law 235 = .ok (.aload_n 1, 1) := by decide +kernel
theorem d_LW_law_236 : decode b_LW_law 236 = .ok (.aload_n 0, 1) := by decide +kernel
theorem d_LW_law_237 : decode b_LW_law 237 = .ok (.iload_n 3, 1) := by decide +kernel
theorem d_LW_law_238 : decode b_LW_law 238 = .ok (.iconst 1, 1) := by decide +kernel
theorem d_LW_law_239 : decode b_LW_law 239 = .ok (.iadd, 1) := by decide +kernel
theorem d_LW_law_240 : decode b_LW_law 240 = .ok (.iaload, 1) := by decide +kernel
theorem d_LW_law_241 : decode b_LW_law 241 = .ok (.aload_n 0, 1) := by decide +kernel
theorem d_LW_law_242 : decode b_LW_law 242 = .ok (.iload_n 3, 1) := by decide +kernel
theorem d_LW_law_243 : decode b_LW_law 243 = .ok (.iconst 2, 1) := by decide +kernel
theorem d_LW_law_244 : decode b_LW_law 244 = .ok (.iadd, 1) := by decide +kernel
theorem d_LW_law_245 : decode b_LW_law 245 = .ok (.iaload, 1) := by decide +kernel
theorem d_LW_law_246 : decode b_LW_law 246 = .ok (.invokevirtual 28, 3) := by decide +kernel
theorem d_LW_law_249 : decode b_LW_law 249 = .ok (.aload_n 2, 1) := by decide +kernel
theorem d_LW_law_250 : decode b_LW_law 250 = .ok (.aload_n 0, 1) := by decide +kernel
theorem d_LW_law_251 : decode b_LW_law 251 = .ok (.iload_n 3, 1) := by decide +kernel
theorem d_LW_law_252 : decode b_LW_law 252 = .ok (.iconst 1, 1) := by decide +kernel
theorem d_LW_law_253 : decode b_LW_law 253 = .ok (.iadd, 1) := by decide +kernel
theorem d_LW_law_254 : decode b_LW_law 254 = .ok (.iaload, 1) := by decide +kernel
theorem d_LW_law_255 : decode b_LW_law 255 = .ok (.aload_n 0, 1) := by decide +kernel
theorem d_LW_law_256 : decode b_LW_law 256 = .ok (.iload_n 3, 1) := by decide +kernel
theorem d_LW_law_257 : decode b_LW_law 257 = .ok (.iconst 2, 1) := by decide +kernel
theorem d_LW_law_258 : decode b_LW_law 258 = .ok (.iadd, 1) := by decide +kernel
theorem d_LW_law_259 : decode b_LW_law 259 = .ok (.iaload, 1) := by decide +kernel
theorem d_LW_law_260 : decode b_LW_law 260 = .ok (.invokevirtual 32, 3) := by decide +kernel
theorem d_LW_law_263 : decode b_LW_law 263 = .ok (.if_icmp .eq 426, 3) := by decide +kernel
theorem d_LW_law_266 : decode b_LW_law 266 = .ok (.iconst 0, 1) := by decide +kernel
theorem d_LW_law_267 : decode b_LW_law 267 = .ok (.ireturn, 1) := by decide +kernel
theorem d_LW_law_268 : decode b_LW_law 268 = .ok (.aload_n 1, 1) := by decide +kernel
theorem d_LW_law_269 : decode b_LW_law 269 = .ok (.aload_n 0, 1) := by decide +kernel
theorem d_LW_law_270 : decode b_LW_law 270 = .ok (.iload_n 3, 1) := by decide +kernel
theorem d_LW_law_271 : decode b_LW_law 271 = .ok (.iconst 1, 1) := by decide +kernel
theorem d_LW_law_272 : decode b_LW_law 272 = .ok (.iadd, 1) := by decide +kernel
theorem d_LW_law_273 : decode b_LW_law 273 = .ok (.iaload, 1) := by decide +kernel
theorem d_LW_law_274 : decode b_LW_law 274 = .ok (.aload_n 0, 1) := by decide +kernel
theorem d_LW_law_275 : decode b_LW_law 275 = .ok (.iload_n 3, 1) := by decide +kernel
theorem d_LW_law_276 : decode b_LW_law 276 = .ok (.iconst 2, 1) := by decide +kernel
theorem d_LW_law_277 : decode b_LW_law 277 = .ok (.iadd, 1) := by decide +kernel
theorem d_LW_law_278 : decode b_LW_law 278 = .ok (.iaload, 1) := by decide +kernel
theorem d_LW_law_279 : decode b_LW_law 279 = .ok (.invokevirtual 33, 3) := by decide +kernel
theorem d_LW_law_282 : decode b_LW_law 282 = .ok (.aload_n 2, 1) := by decide +kernel
theorem d_LW_law_283 : decode b_LW_law 283 = .ok (.aload_n 0, 1) := by decide +kernel
theorem d_LW_law_284 : decode b_LW_law 284 = .ok (.iload_n 3, 1) := by decide +kernel
theorem d_LW_law_285 : decode b_LW_law 285 = .ok (.iconst 1, 1) := by decide +kernel
theorem d_LW_law_286 : decode b_LW_law 286 = .ok (.iadd, 1) := by decide +kernel
theorem d_LW_law_287 : decode b_LW_law 287 = .ok (.iaload, 1) := by decide +kernel
theorem d_LW_law_288 : decode b_LW_law 288 = .ok (.aload_n 0, 1) := by decide +kernel
theorem d_LW_law_289 : decode b_LW_law 289 = .ok (.iload_n 3, 1) := by decide +kernel
theorem d_LW_law_290 : decode b_LW_law 290 = .ok (.iconst 2, 1) := by decide +kernel
theorem d_LW_law_291 : decode b_LW_law 291 = .ok (.iadd, 1) := by decide +kernel
theorem d_LW_law_292 : decode b_LW_law 292 = .ok (.iaload, 1) := by decide +kernel
theorem d_LW_law_293 : decode b_LW_law 293 = .ok (.invokevirtual 36, 3) := by decide +kernel
theorem d_LW_law_296 : decode b_LW_law 296 = .ok (.if_icmp .eq 393, 3) := by decide +kernel
theorem d_LW_law_299 : decode b_LW_law 299 = .ok (.iconst 0, 1) := by decide +kernel
theorem d_LW_law_300 : decode b_LW_law 300 = .ok (.ireturn, 1) := by decide +kernel
theorem d_LW_law_301 : decode b_LW_law 301 = .ok (.aload_n 1, 1) := by decide +kernel
theorem d_LW_law_302 : decode b_LW_law 302 = .ok (.aload_n 0, 1) := by decide +kernel
theorem d_LW_law_303 : decode b_LW_law 303 = .ok (.iload_n 3, 1) := by decide +kernel
theorem d_LW_law_304 : decode b_LW_law 304 = .ok (.iconst 1, 1) := by decide +kernel
theorem d_LW_law_305 : decode b_LW_law 305 = .ok (.iadd, 1) := by decide +kernel
theorem d_LW_law_306 : decode b_LW_law 306 = .ok (.iaload, 1) := by decide +kernel
theorem d_LW_law_307 : decode b_LW_law 307 = .ok (.invokevirtual 37, 3) := by decide +kernel
theorem d_LW_law_310 : decode b_LW_law 310 = .ok (.aload_n 2, 1) := by decide +kernel
theorem d_LW_law_311 : decode b_LW_law 311 = .ok (.aload_n 0, 1) := by decide +kernel
theorem d_LW_law_312 : decode b_LW_law 312 = .ok (.iload_n 3, 1) := by decide +kernel
theorem d_LW_law_313 : decode b_LW_law 313 = .ok (.iconst 1, 1) := by decide +kernel
theorem d_LW_law_314 : decode b_LW_law 314 = .ok (.iadd, 1) := by decide +kernel
theorem d_LW_law_315 : decode b_LW_law 315 = .ok (.iaload, 1) := by decide +kernel
theorem d_LW_law_316 : decode b_LW_law 316 = .ok (.invokevirtual 40, 3) := by decide +kernel
theorem d_LW_law_319 : decode b_LW_law 319 = .ok (.if_icmp .eq 370, 3) := by decide +kernel
theorem d_LW_law_322 : decode b_LW_law 322 = .ok (.iconst 0, 1) := by decide +kernel
theorem d_LW_law_323 : decode b_LW_law 323 = .ok (.ireturn, 1) := by decide +kernel
theorem d_LW_law_324 : decode b_LW_law 324 = .ok (.aload_n 1, 1) := by decide +kernel
theorem d_LW_law_325 : decode b_LW_law 325 = .ok (.aload_n 0, 1) := by decide +kernel
theorem d_LW_law_326 : decode b_LW_law 326 = .ok (.iload_n 3, 1) := by decide +kernel
theorem d_LW_law_327 : decode b_LW_law 327 = .ok (.iconst 1, 1) := by decide +kernel
theorem d_LW_law_328 : decode b_LW_law 328 = .ok (.iadd, 1) := by decide +kernel
theorem d_LW_law_329 : decode b_LW_law 329 = .ok (.iaload, 1) := by decide +kernel
theorem d_LW_law_330 : decode b_LW_law 330 = .ok (.aload_n 0, 1) := by decide +kernel
theorem d_LW_law_331 : decode b_LW_law 331 = .ok (.iload_n 3, 1) := by decide +kernel
theorem d_LW_law_332 : decode b_LW_law 332 = .ok (.iconst 2, 1) := by decide +kernel
theorem d_LW_law_333 : decode b_LW_law 333 = .ok (.iadd, 1) := by decide +kernel
theorem d_LW_law_334 : decode b_LW_law 334 = .ok (.iaload, 1) := by decide +kernel
theorem d_LW_law_335 : decode b_LW_law 335 = .ok (.invokevirtual 41, 3) := by decide +kernel
theorem d_LW_law_338 : decode b_LW_law 338 = .ok (.aload_n 2, 1) := by decide +kernel
theorem d_LW_law_339 : decode b_LW_law 339 = .ok (.aload_n 0, 1) := by decide +kernel
theorem d_LW_law_340 : decode b_LW_law 340 = .ok (.iload_n 3, 1) := by decide +kernel
theorem d_LW_law_341 : decode b_LW_law 341 = .ok (.iconst 1, 1) := by decide +kernel
theorem d_LW_law_342 : decode b_LW_law 342 = .ok (.iadd, 1) := by decide +kernel
theorem d_LW_law_343 : decode b_LW_law 343 = .ok (.iaload, 1) := by decide +kernel
theorem d_LW_law_344 : decode b_LW_law 344 = .ok (.aload_n 0, 1) := by decide +kernel
theorem d_LW_law_345 : decode b_LW_law 345 = .ok (.iload_n 3, 1) := by decide +kernel
theorem d_LW_law_346 : decode b_LW_law 346 = .ok (.iconst 2, 1) := by decide +kernel
theorem d_LW_law_347 : decode b_LW_law 347 = .ok (.iadd, 1) := by decide +kernel
theorem d_LW_law_348 : decode b_LW_law 348 = .ok (.iaload, 1) := by decide +kernel
theorem d_LW_law_349 : decode b_LW_law 349 = .ok (.invokevirtual 44, 3) := by decide +kernel
theorem d_LW_law_352 : decode b_LW_law 352 = .ok (.if_icmp .eq 337, 3) := by decide +kernel
theorem d_LW_law_355 : decode b_LW_law 355 = .ok (.iconst 0, 1) := by decide +kernel
theorem d_LW_law_356 : decode b_LW_law 356 = .ok (.ireturn, 1) := by decide +kernel
theorem d_LW_law_357 : decode b_LW_law 357 = .ok (.aload_n 1, 1) := by decide +kernel
theorem d_LW_law_358 : decode b_LW_law 358 = .ok (.aload_n 0, 1) := by decide +kernel
theorem d_LW_law_359 : decode b_LW_law 359 = .ok (.iload_n 3, 1) := by decide +kernel
theorem d_LW_law_360 : decode b_LW_law 360 = .ok (.iconst 1, 1) := by decide +kernel
theorem d_LW_law_361 : decode b_LW_law 361 = .ok (.iadd, 1) := by decide +kernel
theorem d_LW_law_362 : decode b_LW_law 362 = .ok (.iaload, 1) := by decide +kernel
theorem d_LW_law_363 : decode b_LW_law 363 = .ok (.aload_n 0, 1) := by decide +kernel
theorem d_LW_law_364 : decode b_LW_law 364 = .ok (.iload_n 3, 1) := by decide +kernel
theorem d_LW_law_365 : decode b_LW_law 365 = .ok (.iconst 2, 1) := by decide +kernel
theorem d_LW_law_366 : decode b_LW_law 366 = .ok (.iadd, 1) := by decide +kernel
theorem d_LW_law_367 : decode b_LW_law 367 = .ok (.iaload, 1) := by decide +kernel
theorem d_LW_law_368 : decode b_LW_law 368 = .ok (.invokevirtual 45, 3) := by decide +kernel
theorem d_LW_law_371 : decode b_LW_law 371 = .ok (.aload_n 2, 1) := by decide +kernel
theorem d_LW_law_372 : decode b_LW_law 372 = .ok (.aload_n 0, 1) := by decide +kernel
theorem d_LW_law_373 : decode b_LW_law 373 = .ok (.iload_n 3, 1) := by decide +kernel
theorem d_LW_law_374 : decode b_LW_law 374 = .ok (.iconst 1, 1) := by decide +kernel
theorem d_LW_law_375 : decode b_LW_law 375 = .ok (.iadd, 1) := by decide +kernel
theorem d_LW_law_376 : decode b_LW_law 376 = .ok (.iaload, 1) := by decide +kernel
theorem d_LW_law_377 : decode b_LW_law 377 = .ok (.aload_n 0, 1) := by decide +kernel
theorem d_LW_law_378 : decode b_LW_law 378 = .ok (.iload_n 3, 1) := by decide +kernel
theorem d_LW_law_379 : decode b_LW_law 379 = .ok (.iconst 2, 1) := by decide +kernel
theorem d_LW_law_380 : decode b_LW_law 380 = .ok (.iadd, 1) := by decide +kernel
theorem d_LW_law_381 : decode b_LW_law 381 = .ok (.iaload, 1) := by decide +kernel
theorem d_LW_law_382 : decode b_LW_law 382 = .ok (.invokevirtual 49, 3) := by decide +kernel
theorem d_LW_law_385 : decode b_LW_law 385 = .ok (.if_icmp .eq 304, 3) := by decide +kernel
theorem d_LW_law_388 : decode b_LW_law 388 = .ok (.iconst 0, 1) := by decide +kernel
theorem d_LW_law_389 : decode b_LW_law 389 = .ok (.ireturn, 1) := by decide +kernel
theorem d_LW_law_390 : decode b_LW_law 390 = .ok (.aload_n 1, 1) := by decide +kernel
theorem d_LW_law_391 : decode b_LW_law 391 = .ok (.aload_n 0, 1) := by decide +kernel
theorem d_LW_law_392 : decode b_LW_law 392 = .ok (.iload_n 3, 1) := by decide +kernel
theorem d_LW_law_393 : decode b_LW_law 393 = .ok (.iconst 1, 1) := by decide +kernel
theorem d_LW_law_394 : decode b_LW_law 394 = .ok (.iadd, 1) := by decide +kernel
theorem d_LW_law_395 : decode b_LW_law 395 = .ok (.iaload, 1) := by decide +kernel
theorem d_LW_law_396 : decode b_LW_law 396 = .ok (.aload_n 0, 1) := by decide +kernel
theorem d_LW_law_397 : decode b_LW_law 397 = .ok (.iload_n 3, 1) := by decide +kernel
theorem d_LW_law_398 : decode b_LW_law 398 = .ok (.iconst 2, 1) := by decide +kernel
theorem d_LW_law_399 : decode b_LW_law 399 = .ok (.iadd, 1) := by decide +kernel
theorem d_LW_law_400 : decode b_LW_law 400 = .ok (.iaload, 1) := by decide +kernel
theorem d_LW_law_401 : decode b_LW_law 401 = .ok (.invokevirtual 50, 3) := by decide +kernel
theorem d_LW_law_404 : decode b_LW_law 404 = .ok (.aload_n 2, 1) := by decide +kernel
theorem d_LW_law_405 : decode b_LW_law 405 = .ok (.aload_n 0, 1) := by decide +kernel
theorem d_LW_law_406 : decode b_LW_law 406 = .ok (.iload_n 3, 1) := by decide +kernel
theorem d_LW_law_407 : decode b_LW_law 407 = .ok (.iconst 1, 1) := by decide +kernel
theorem d_LW_law_408 : decode b_LW_law 408 = .ok (.iadd, 1) := by decide +kernel
theorem d_LW_law_409 : decode b_LW_law 409 = .ok (.iaload, 1) := by decide +kernel
theorem d_LW_law_410 : decode b_LW_law 410 = .ok (.aload_n 0, 1) := by decide +kernel
theorem d_LW_law_411 : decode b_LW_law 411 = .ok (.iload_n 3, 1) := by decide +kernel
theorem d_LW_law_412 : decode b_LW_law 412 = .ok (.iconst 2, 1) := by decide +kernel
theorem d_LW_law_413 : decode b_LW_law 413 = .ok (.iadd, 1) := by decide +kernel
theorem d_LW_law_414 : decode b_LW_law 414 = .ok (.iaload, 1) := by decide +kernel
theorem d_LW_law_415 : decode b_LW_law 415 = .ok (.invokevirtual 54, 3) := by decide +kernel
theorem d_LW_law_418 : decode b_LW_law 418 = .ok (.lcmp, 1) := by decide +kernel
theorem d_LW_law_419 : decode b_LW_law 419 = .ok (.ifCond .eq 270, 3) := by decide +kernel
theorem d_LW_law_422 : decode b_LW_law 422 = .ok (.iconst 0, 1) := by decide +kernel
theorem d_LW_law_423 : decode b_LW_law 423 = .ok (.ireturn, 1) := by decide +kernel
theorem d_LW_law_424 : decode b_LW_law 424 = .ok (.aload_n 1, 1) := by decide +kernel
theorem d_LW_law_425 : decode b_LW_law 425 = .ok (.aload_n 0, 1) := by decide +kernel
theorem d_LW_law_426 : decode b_LW_law 426 = .ok (.iload_n 3, 1) := by decide +kernel
theorem d_LW_law_427 : decode b_LW_law 427 = .ok (.iconst 1, 1) := by decide +kernel
theorem d_LW_law_428 : decode b_LW_law 428 = .ok (.iadd, 1) := by decide +kernel
theorem d_LW_law_429 : decode b_LW_law 429 = .ok (.iaload, 1) := by decide +kernel
theorem d_LW_law_430 : decode b_LW_law 430 = .ok (.aload_n 0, 1) := by decide +kernel
theorem d_LW_law_431 : decode b_LW_law 431 = .ok (.iload_n 3, 1) := by decide +kernel
theorem d_LW_law_432 : decode b_LW_law 432 = .ok (.iconst 2, 1) := by decide +kernel
theorem d_LW_law_433 : decode b_LW_law 433 = .ok (.iadd, 1) := by decide +kernel
theorem d_LW_law_434 : decode b_LW_law 434 = .ok (.iaload, 1) := by decide +kernel
theorem d_LW_law_435 : decode b_LW_law 435 = .ok (.invokevirtual 55, 3) := by decide +kernel
theorem d_LW_law_438 : decode b_LW_law 438 = .ok (.aload_n 2, 1) := by decide +kernel
theorem d_LW_law_439 : decode b_LW_law 439 = .ok (.aload_n 0, 1) := by decide +kernel
theorem d_LW_law_440 : decode b_LW_law 440 = .ok (.iload_n 3, 1) := by decide +kernel
theorem d_LW_law_441 : decode b_LW_law 441 = .ok (.iconst 1, 1) := by decide +kernel
theorem d_LW_law_442 : decode b_LW_law 442 = .ok (.iadd, 1) := by decide +kernel
theorem d_LW_law_443 : decode b_LW_law 443 = .ok (.iaload, 1) := by decide +kernel
theorem d_LW_law_444 : decode b_LW_law 444 = .ok (.aload_n 0, 1) := by decide +kernel
theorem d_LW_law_445 : decode b_LW_law 445 = .ok (.iload_n 3, 1) := by decide +kernel
theorem d_LW_law_446 : decode b_LW_law 446 = .ok (.iconst 2, 1) := by decide +kernel
theorem d_LW_law_447 : decode b_LW_law 447 = .ok (.iadd, 1) := by decide +kernel
theorem d_LW_law_448 : decode b_LW_law 448 = .ok (.iaload, 1) := by decide +kernel
theorem d_LW_law_449 : decode b_LW_law 449 = .ok (.invokevirtual 58, 3) := by decide +kernel
theorem d_LW_law_452 : decode b_LW_law 452 = .ok (.if_icmp .eq 237, 3) := by decide +kernel
theorem d_LW_law_455 : decode b_LW_law 455 = .ok (.iconst 0, 1) := by decide +kernel
theorem d_LW_law_456 : decode b_LW_law 456 = .ok (.ireturn, 1) := by decide +kernel
theorem d_LW_law_457 : decode b_LW_law 457 = .ok (.aload_n 1, 1) := by decide +kernel
theorem d_LW_law_458 : decode b_LW_law 458 = .ok (.aload_n 0, 1) := by decide +kernel
theorem d_LW_law_459 : decode b_LW_law 459 = .ok (.iload_n 3, 1) := by decide +kernel
theorem d_LW_law_460 : decode b_LW_law 460 = .ok (.iconst 1, 1) := by decide +kernel
theorem d_LW_law_461 : decode b_LW_law 461 = .ok (.iadd, 1) := by decide +kernel
theorem d_LW_law_462 : decode b_LW_law 462 = .ok (.iaload, 1) := by decide +kernel

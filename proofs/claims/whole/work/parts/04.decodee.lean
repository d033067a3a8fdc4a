theorem d_IS_count_83 : decode b_IS_count 83 = .ok (.ireturn, 1) := by decide +kernel
theorem d_IS_count_84 : decode b_IS_count 84 = .ok (.aload_n 0, 1) := by decide +kernel
theorem d_IS_count_85 : decode b_IS_count 85 = .ok (.getfield 40, 3) := by decide +kernel
theorem d_IS_count_88 : decode b_IS_count 88 = .ok (.ireturn, 1) := by decide +kernel
theorem d_IS_count_89 : decode b_IS_count 89 = .ok (.iconst (-1), 1) := by decide +kernel
theorem d_IS_count_90 : decode b_IS_count 90 = .ok (.ireturn, 1) := by decide +kernel
theorem d_IS_entriesIn_0 : decode b_IS_entriesIn 0 = .ok (.aload_n 0, 1) := by decide +kernel
theorem d_IS_entriesIn_1 : decode b_IS_entriesIn 1 = .ok (.aload_n 1, 1) := by decide +kernel
theorem d_IS_entriesIn_2 : decode b_IS_entriesIn 2 = .ok (.invokevirtual 195, 3) := by decide +kernel
theorem d_IS_entriesIn_5 : decode b_IS_entriesIn 5 = .ok (.iconst 0, 1) := by decide +kernel
theorem d_IS_entriesIn_6 : decode b_IS_entriesIn 6 = .ok (.istore_n 2, 1) := by decide +kernel
theorem d_IS_entriesIn_7 : decode b_IS_entriesIn 7 = .ok (.iconst 0, 1) := by decide +kernel
theorem d_IS_entriesIn_8 : decode b_IS_entriesIn 8 = .ok (.istore_n 3, 1) := by decide +kernel
theorem d_IS_entriesIn_9 : decode b_IS_entriesIn 9 = .ok (.iload_n 3, 1) := by decide +kernel
theorem d_IS_entriesIn_10 : decode b_IS_entriesIn 10 = .ok (.aload_n 0, 1) := by decide +kernel
theorem d_IS_entriesIn_11 : decode b_IS_entriesIn 11 = .ok (.getfield 16, 3) := by decide +kernel
theorem d_IS_entriesIn_14 : decode b_IS_entriesIn 14 = .ok (.invokevirtual 161, 3) := by decide +kernel
theorem d_IS_entriesIn_17 : decode b_IS_entriesIn 17 = .ok (.if_icmp .ge 35, 3) := by decide +kernel
theorem d_IS_entriesIn_20 : decode b_IS_entriesIn 20 = .ok (.aload_n 0, 1) := by decide +kernel
theorem d_IS_entriesIn_21 : decode b_IS_entriesIn 21 = .ok (.getfield 36, 3) := by decide +kernel
theorem d_IS_entriesIn_24 : decode b_IS_entriesIn 24 = .ok (.iload_n 3, 1) := by decide +kernel
theorem d_IS_entriesIn_25 : decode b_IS_entriesIn 25 = .ok (.baload, 1) := by decide +kernel
theorem d_IS_entriesIn_26 : decode b_IS_entriesIn 26 = .ok (.ifCond .eq 20, 3) := by decide +kernel
theorem d_IS_entriesIn_29 : decode b_IS_entriesIn 29 = .ok (.iload_n 2, 1) := by decide +kernel
theorem d_IS_entriesIn_30 : decode b_IS_entriesIn 30 = .ok (.aload_n 0, 1) := by decide +kernel
theorem d_IS_entriesIn_31 : decode b_IS_entriesIn 31 = .ok (.getfield 16, 3) := by decide +kernel
theorem d_IS_entriesIn_34 : decode b_IS_entriesIn 34 = .ok (.iload_n 3, 1) := by decide +kernel
theorem d_IS_entriesIn_35 : decode b_IS_entriesIn 35 = .ok (.invokevirtual 60, 3) := by decide +kernel
theorem d_IS_entriesIn_38 : decode b_IS_entriesIn 38 = .ok (.checkcast 137, 3) := by decide +kernel
theorem d_IS_entriesIn_41 : decode b_IS_entriesIn 41 = .ok (.invokevirtual 136, 3) := by decide +kernel
theorem d_IS_entriesIn_44 : decode b_IS_entriesIn 44 = .ok (.iadd, 1) := by decide +kernel
theorem d_IS_entriesIn_45 : decode b_IS_entriesIn 45 = .ok (.istore_n 2, 1) := by decide +kernel
theorem d_IS_entriesIn_46 : decode b_IS_entriesIn 46 = .ok (.iinc 3 1, 3) := by decide +kernel
theorem d_IS_entriesIn_49 : decode b_IS_entriesIn 49 = .ok (.goto (-40), 3) := by decide +kernel
theorem d_IS_entriesIn_52 : decode b_IS_entriesIn 52 = .ok (.iload_n 2, 1) := by decide +kernel
theorem d_IS_entriesIn_53 : decode b_IS_entriesIn 53 = .ok (.ireturn, 1) := by decide +kernel
theorem d_MO_init_0 : decode b_MO_init 0 = .ok (.aload_n 0, 1) := by decide +kernel
theorem d_MO_init_1 : decode b_MO_init 1 = .ok (.invokespecial 1, 3) := by decide +kernel
theorem d_MO_init_4 : decode b_MO_init 4 = .ok (.aload_n 0, 1) := by decide +kernel
theorem d_MO_init_5 : decode b_MO_init 5 = .ok (.bipush 40, 2) := by decide +kernel
theorem d_MO_init_7 : decode b_MO_init 7 = .ok (.newarray .int, 2) := by decide +kernel
theorem d_MO_init_9 : decode b_MO_init 9 = .ok (.putfield 7, 3) := by decide +kernel
theorem d_MO_init_12 : decode b_MO_init 12 = .ok (.aload_n 0, 1) := by decide +kernel
theorem d_MO_init_13 : decode b_MO_init 13 = .ok (.sipush 5000, 3) := by decide +kernel
theorem d_MO_init_16 : decode b_MO_init 16 = .ok (.newarray .long, 2) := by decide +kernel
theorem d_MO_init_18 : decode b_MO_init 18 = .ok (.putfield 13, 3) := by decide +kernel
theorem d_MO_init_21 : decode b_MO_init 21 = .ok (.aload_n 0, 1) := by decide +kernel
theorem d_MO_init_22 : decode b_MO_init 22 = .ok (.iconst 1, 1) := by decide +kernel
theorem d_MO_init_23 : decode b_MO_init 23 = .ok (.putfield 17, 3) := by decide +kernel
theorem d_MO_init_26 : decode b_MO_init 26 = .ok (.aload_n 0, 1) := by decide +kernel
theorem d_MO_init_27 : decode b_MO_init 27 = .ok (.bipush 80, 2) := by decide +kernel
theorem d_MO_init_29 : decode b_MO_init 29 = .ok (.newarray .boolean, 2) := by decide +kernel
theorem d_MO_init_31 : decode b_MO_init 31 = .ok (.putfield 21, 3) := by decide +kernel
theorem d_MO_init_34 : decode b_MO_init 34 = .ok (.aload_n 0, 1) := by decide +kernel
theorem d_MO_init_35 : decode b_MO_init 35 = .ok (.bipush 12, 2) := by decide +kernel
theorem d_MO_init_37 : decode b_MO_init 37 = .ok (.newarray .int, 2) := by decide +kernel
theorem d_MO_init_39 : decode b_MO_init 39 = .ok (.dup, 1) := by decide +kernel
theorem d_MO_init_40 : decode b_MO_init 40 = .ok (.iconst 0, 1) := by decide +kernel
theorem d_MO_init_41 : decode b_MO_init 41 = .ok (.bipush 40, 2) := by decide +kernel
theorem d_MO_init_43 : decode b_MO_init 43 = .ok (.iastore, 1) := by decide +kernel
theorem d_MO_init_44 : decode b_MO_init 44 = .ok (.dup, 1) := by decide +kernel
theorem d_MO_init_45 : decode b_MO_init 45 = .ok (.iconst 1, 1) := by decide +kernel
theorem d_MO_init_46 : decode b_MO_init 46 = .ok (.bipush 40, 2) := by decide +kernel
theorem d_MO_init_48 : decode b_MO_init 48 = .ok (.iastore, 1) := by decide +kernel
theorem d_MO_init_49 : decode b_MO_init 49 = .ok (.dup, 1) := by decide +kernel
theorem d_MO_init_50 : decode b_MO_init 50 = .ok (.iconst 2, 1) := by decide +kernel
theorem d_MO_init_51 : decode b_MO_init 51 = .ok (.bipush 40, 2) := by decide +kernel
theorem d_MO_init_53 : decode b_MO_init 53 = .ok (.iastore, 1) := by decide +kernel
theorem d_MO_init_54 : decode b_MO_init 54 = .ok (.dup, 1) := by decide +kernel
theorem d_MO_init_55 : decode b_MO_init 55 = .ok (.iconst 3, 1) := by decide +kernel
theorem d_MO_init_56 : decode b_MO_init 56 = .ok (.bipush 40, 2) := by decide +kernel
theorem d_MO_init_58 : decode b_MO_init 58 = .ok (.iastore, 1) := by decide +kernel
theorem d_MO_init_59 : decode b_MO_init 59 = .ok (.dup, 1) := by decide +kernel
theorem d_MO_init_60 : decode b_MO_init 60 = .ok (.iconst 4, 1) := by decide +kernel
theorem d_MO_init_61 : decode b_MO_init 61 = .ok (.bipush 40, 2) := by decide +kernel
theorem d_MO_init_63 : decode b_MO_init 63 = .ok (.iastore, 1) := by decide +kernel
theorem d_MO_init_64 : decode b_MO_init 64 = .ok (.dup, 1) := by decide +kernel
theorem d_MO_init_65 : decode b_MO_init 65 = .ok (.iconst 5, 1) := by decide +kernel
theorem d_MO_init_66 : decode b_MO_init 66 = .ok (.bipush 40, 2) := by decide +kernel
theorem d_MO_init_68 : decode b_MO_init 68 = .ok (.iastore, 1) := by decide +kernel
theorem d_MO_init_69 : decode b_MO_init 69 = .ok (.dup, 1) := by decide +kernel
theorem d_MO_init_70 : decode b_MO_init 70 = .ok (.bipush 6, 2) := by decide +kernel
theorem d_MO_init_72 : decode b_MO_init 72 = .ok (.bipush 40, 2) := by decide +kernel
theorem d_MO_init_74 : decode b_MO_init 74 = .ok (.iastore, 1) := by decide +kernel
theorem d_MO_init_75 : decode b_MO_init 75 = .ok (.dup, 1) := by decide +kernel
theorem d_MO_init_76 : decode b_MO_init 76 = .ok (.bipush 7, 2) := by decide +kernel
theorem d_MO_init_78 : decode b_MO_init 78 = .ok (.bipush 40, 2) := by decide +kernel
theorem d_MO_init_80 : decode b_MO_init 80 = .ok (.iastore, 1) := by decide +kernel
theorem d_MO_init_81 : decode b_MO_init 81 = .ok (.dup, 1) := by decide +kernel
theorem d_MO_init_82 : decode b_MO_init 82 = .ok (.bipush 8, 2) := by decide +kernel
theorem d_MO_init_84 : decode b_MO_init 84 = .ok (.bipush 40, 2) := by decide +kernel
theorem d_MO_init_86 : decode b_MO_init 86 = .ok (.iastore, 1) := by decide +kernel
theorem d_MO_init_87 : decode b_MO_init 87 = .ok (.dup, 1) := by decide +kernel
theorem d_MO_init_88 : decode b_MO_init 88 = .ok (.bipush 9, 2) := by decide +kernel
theorem d_MO_init_90 : decode b_MO_init 90 = .ok (.bipush 40, 2) := by decide +kernel
theorem d_MO_init_92 : decode b_MO_init 92 = .ok (.iastore, 1) := by decide +kernel
theorem d_MO_init_93 : decode b_MO_init 93 = .ok (.dup, 1) := by decide +kernel
theorem d_MO_init_94 : decode b_MO_init 94 = .ok (.bipush 10, 2) := by decide +kernel
theorem d_MO_init_96 : decode b_MO_init 96 = .ok (.bipush 40, 2) := by decide +kernel
theorem d_MO_init_98 : decode b_MO_init 98 = .ok (.iastore, 1) := by decide +kernel
theorem d_MO_init_99 : decode b_MO_init 99 = .ok (.dup, 1) := by decide +kernel
theorem d_MO_init_100 : decode b_MO_init 100 = .ok (.bipush 11, 2) := by decide +kernel
theorem d_MO_init_102 : decode b_MO_init 102 = .ok (.bipush 40, 2) := by decide +kernel
theorem d_MO_init_104 : decode b_MO_init 104 = .ok (.iastore, 1) := by decide +kernel
theorem d_MO_init_105 : decode b_MO_init 105 = .ok (.putfield 25, 3) := by decide +kernel
theorem d_MO_init_108 : decode b_MO_init 108 = .ok (.aload_n 0, 1) := by decide +kernel
theorem d_MO_init_109 : decode b_MO_init 109 = .ok (.bipush 125, 2) := by decide +kernel
theorem d_MO_init_111 : decode b_MO_init 111 = .ok (.newarray .long, 2) := by decide +kernel
theorem d_MO_init_113 : decode b_MO_init 113 = .ok (.putfield 28, 3) := by decide +kernel
theorem d_MO_init_116 : decode b_MO_init 116 = .ok (.aload_n 0, 1) := by decide +kernel
theorem d_MO_init_117 : decode b_MO_init 117 = .ok (.bipush 40, 2) := by decide +kernel
theorem d_MO_init_119 : decode b_MO_init 119 = .ok (.newarray .boolean, 2) := by decide +kernel
theorem d_MO_init_121 : decode b_MO_init 121 = .ok (.putfield 31, 3) := by decide +kernel
theorem d_MO_init_124 : decode b_MO_init 124 = .ok (.iconst 0, 1) := by decide +kernel
theorem d_MO_init_125 : decode b_MO_init 125 = .ok (.istore_n 1, 1) := by decide +kernel
theorem d_MO_init_126 : decode b_MO_init 126 = .ok (.iload_n 1, 1) := by decide +kernel
theorem d_MO_init_127 : decode b_MO_init 127 = .ok (.bipush 125, 2) := by decide +kernel
theorem d_MO_init_129 : decode b_MO_init 129 = .ok (.if_icmp .ge 28, 3) := by decide +kernel
theorem d_MO_init_132 : decode b_MO_init 132 = .ok (.aload_n 0, 1) := by decide +kernel
theorem d_MO_init_133 : decode b_MO_init 133 = .ok (.getfield 13, 3) := by decide +kernel
theorem d_MO_init_136 : decode b_MO_init 136 = .ok (.iload_n 1, 1) := by decide +kernel
theorem d_MO_init_137 : decode b_MO_init 137 = .ok (.iload_n 1, 1) := by decide +kernel
theorem d_MO_init_138 : decode b_MO_init 138 = .ok (.ifCond .ne 9, 3) := by decide +kernel
theorem d_MO_init_141 : decode b_MO_init 141 = .ok (.ldc2_w 34, 3) := by decide +kernel
theorem d_MO_init_144 : decode b_MO_init 144 = .ok (.goto 6, 3) := by decide +kernel
theorem d_MO_init_147 : decode b_MO_init 147 = .ok (.ldc2_w 36, 3) := by decide +kernel
theorem d_MO_init_150 : decode b_MO_init 150 = .ok (.lastore, 1) := by decide +kernel
theorem d_MO_init_151 : decode b_MO_init 151 = .ok (.iinc 1 1, 3) := by decide +kernel
theorem d_MO_init_154 : decode b_MO_init 154 = .ok (.goto (-28), 3) := by decide +kernel
theorem d_MO_init_157 : decode b_MO_init 157 = .ok (.aload_n 0, 1) := by decide +kernel
theorem d_MO_init_158 : decode b_MO_init 158 = .ok (.getfield 21, 3) := by decide +kernel
theorem d_MO_init_161 : decode b_MO_init 161 = .ok (.iconst 0, 1) := by decide +kernel
theorem d_MO_init_162 : decode b_MO_init 162 = .ok (.iconst 1, 1) := by decide +kernel
theorem d_MO_init_163 : decode b_MO_init 163 = .ok (.bastore, 1) := by decide +kernel
theorem d_MO_init_164 : decode b_MO_init 164 = .ok (.aload_n 0, 1) := by decide +kernel
theorem d_MO_init_165 : decode b_MO_init 165 = .ok (.getfield 21, 3) := by decide +kernel
theorem d_MO_init_168 : decode b_MO_init 168 = .ok (.bipush 40, 2) := by decide +kernel
theorem d_MO_init_170 : decode b_MO_init 170 = .ok (.iconst 1, 1) := by decide +kernel
theorem d_MO_init_171 : decode b_MO_init 171 = .ok (.bastore, 1) := by decide +kernel
theorem d_MO_init_172 : decode b_MO_init 172 = .ok (.return_, 1) := by decide +kernel
theorem d_MO_build_0 : decode b_MO_build 0 = .ok (.aload_n 0, 1) := by decide +kernel
theorem d_MO_build_1 : decode b_MO_build 1 = .ok (.iconst 0, 1) := by decide +kernel
theorem d_MO_build_2 : decode b_MO_build 2 = .ok (.iload_n 1, 1) := by decide +kernel
theorem d_MO_build_3 : decode b_MO_build 3 = .ok (.invokevirtual 93, 3) := by decide +kernel
theorem d_MO_build_6 : decode b_MO_build 6 = .ok (.ifCond .eq 32, 3) := by decide +kernel
theorem d_MO_build_9 : decode b_MO_build 9 = .ok (.iload_n 2, 1) := by decide +kernel
theorem d_MO_build_10 : decode b_MO_build 10 = .ok (.ifCond .lt 28, 3) := by decide +kernel
theorem d_MO_build_13 : decode b_MO_build 13 = .ok (.iload_n 2, 1) := by decide +kernel
theorem d_MO_build_14 : decode b_MO_build 14 = .ok (.iconst 4, 1) := by decide +kernel
theorem d_MO_build_15 : decode b_MO_build 15 = .ok (.if_icmp .gt 23, 3) := by decide +kernel
theorem d_MO_build_18 : decode b_MO_build 18 = .ok (.iload_n 3, 1) := by decide +kernel
theorem d_MO_build_19 : decode b_MO_build 19 = .ok (.invokestatic 46, 3) := by decide +kernel
theorem d_MO_build_22 : decode b_MO_build 22 = .ok (.ifCond .eq 16, 3) := by decide +kernel
theorem d_MO_build_25 : decode b_MO_build 25 = .ok (.iload_n 2, 1) := by decide +kernel
theorem d_MO_build_26 : decode b_MO_build 26 = .ok (.iconst 2, 1) := by decide +kernel
theorem d_MO_build_27 : decode b_MO_build 27 = .ok (.if_icmp .le 13, 3) := by decide +kernel
theorem d_MO_build_30 : decode b_MO_build 30 = .ok (.iload 4, 2) := by decide +kernel
theorem d_MO_build_32 : decode b_MO_build 32 = .ok (.invokestatic 46, 3) := by decide +kernel
theorem d_MO_build_35 : decode b_MO_build 35 = .ok (.ifCond .ne 5, 3) := by decide +kernel
theorem d_MO_build_38 : decode b_MO_build 38 = .ok (.iconst (-1), 1) := by decide +kernel
theorem d_MO_build_39 : decode b_MO_build 39 = .ok (.ireturn, 1) := by decide +kernel
theorem d_MO_build_40 : decode b_MO_build 40 = .ok (.aload_n 0, 1) := by decide +kernel
theorem d_MO_build_41 : decode b_MO_build 41 = .ok (.iload_n 1, 1) := by decide +kernel
theorem d_MO_build_42 : decode b_MO_build 42 = .ok (.invokevirtual 96, 3) := by decide +kernel
theorem d_MO_build_45 : decode b_MO_build 45 = .ok (.aload_n 0, 1) := by decide +kernel
theorem d_MO_build_46 : decode b_MO_build 46 = .ok (.iload_n 2, 1) := by decide +kernel
theorem d_MO_build_47 : decode b_MO_build 47 = .ok (.iload_n 3, 1) := by decide +kernel
theorem d_MO_build_48 : decode b_MO_build 48 = .ok (.iload 4, 2) := by decide +kernel
theorem d_MO_build_50 : decode b_MO_build 50 = .ok (.invokevirtual 100, 3) := by decide +kernel
theorem d_MO_build_53 : decode b_MO_build 53 = .ok (.ifCond .eq 11, 3) := by decide +kernel
theorem d_MO_build_56 : decode b_MO_build 56 = .ok (.aload_n 0, 1) := by decide +kernel
theorem d_MO_build_57 : decode b_MO_build 57 = .ok (.iload_n 1, 1) := by decide +kernel
theorem d_MO_build_58 : decode b_MO_build 58 = .ok (.invokevirtual 104, 3) := by decide +kernel
theorem d_MO_build_61 : decode b_MO_build 61 = .ok (.goto 4, 3) := by decide +kernel
theorem d_MO_build_64 : decode b_MO_build 64 = .ok (.iconst (-1), 1) := by decide +kernel
theorem d_MO_build_65 : decode b_MO_build 65 = .ok (.ireturn, 1) := by decide +kernel
theorem d_MO_holding_0 : decode b_MO_holding 0 = .ok (.aload_n 0, 1) := by decide +kernel
theorem d_MO_holding_1 : decode b_MO_holding 1 = .ok (.iload_n 2, 1) := by decide +kernel
theorem d_MO_holding_2 : decode b_MO_holding 2 = .ok (.invokevirtual 50, 3) := by decide +kernel
theorem d_MO_holding_5 : decode b_MO_holding 5 = .ok (.ifCond .eq 21, 3) := by decide +kernel
theorem d_MO_holding_8 : decode b_MO_holding 8 = .ok (.aload_n 0, 1) := by decide +kernel
theorem d_MO_holding_9 : decode b_MO_holding 9 = .ok (.getfield 21, 3) := by decide +kernel
theorem d_MO_holding_12 : decode b_MO_holding 12 = .ok (.bipush 40, 2) := by decide +kernel
theorem d_MO_holding_14 : decode b_MO_holding 14 = .ok (.iload_n 1, 1) := by decide +kernel
theorem d_MO_holding_15 : decode b_MO_holding 15 = .ok (.imul, 1) := by decide +kernel
theorem d_MO_holding_16 : decode b_MO_holding 16 = .ok (.iload_n 2, 1) := by decide +kernel
theorem d_MO_holding_17 : decode b_MO_holding 17 = .ok (.iadd, 1) := by decide +kernel
theorem d_MO_holding_18 : decode b_MO_holding 18 = .ok (.baload, 1) := by decide +kernel
theorem d_MO_holding_19 : decode b_MO_holding 19 = .ok (.ifCond .eq 7, 3) := by decide +kernel
theorem d_MO_holding_22 : decode b_MO_holding 22 = .ok (.iconst 1, 1) := by decide +kernel
theorem d_MO_holding_23 : decode b_MO_holding 23 = .ok (.goto 4, 3) := by decide +kernel
theorem d_MO_holding_26 : decode b_MO_holding 26 = .ok (.iconst 0, 1) := by decide +kernel
theorem d_MO_holding_27 : decode b_MO_holding 27 = .ok (.ireturn, 1) := by decide +kernel
theorem d_MO_is_0 : decode b_MO_is 0 = .ok (.iload_n 1, 1) := by decide +kernel
theorem d_MO_is_1 : decode b_MO_is 1 = .ok (.ifCond .lt 15, 3) := by decide +kernel
theorem d_MO_is_4 : decode b_MO_is 4 = .ok (.iload_n 1, 1) := by decide +kernel
theorem d_MO_is_5 : decode b_MO_is 5 = .ok (.aload_n 0, 1) := by decide +kernel
theorem d_MO_is_6 : decode b_MO_is 6 = .ok (.getfield 17, 3) := by decide +kernel
theorem d_MO_is_9 : decode b_MO_is 9 = .ok (.if_icmp .ge 7, 3) := by decide +kernel
theorem d_MO_is_12 : decode b_MO_is 12 = .ok (.iconst 1, 1) := by decide +kernel
theorem d_MO_is_13 : decode b_MO_is 13 = .ok (.goto 4, 3) := by decide +kernel
theorem d_MO_is_16 : decode b_MO_is 16 = .ok (.iconst 0, 1) := by decide +kernel
theorem d_MO_is_17 : decode b_MO_is 17 = .ok (.ireturn, 1) := by decide +kernel
theorem d_MO_legal_0 : decode b_MO_legal 0 = .ok (.iload_n 0, 1) := by decide +kernel
theorem d_MO_legal_1 : decode b_MO_legal 1 = .ok (.ifCond .le 34, 3) := by decide +kernel
theorem d_MO_legal_4 : decode b_MO_legal 4 = .ok (.iload_n 0, 1) := by decide +kernel
theorem d_MO_legal_5 : decode b_MO_legal 5 = .ok (.bipush 125, 2) := by decide +kernel
theorem d_MO_legal_7 : decode b_MO_legal 7 = .ok (.if_icmp .ge 28, 3) := by decide +kernel
theorem d_MO_legal_10 : decode b_MO_legal 10 = .ok (.iload_n 0, 1) := by decide +kernel
theorem d_MO_legal_11 : decode b_MO_legal 11 = .ok (.bipush 25, 2) := by decide +kernel
theorem d_MO_legal_13 : decode b_MO_legal 13 = .ok (.idiv, 1) := by decide +kernel
theorem d_MO_legal_14 : decode b_MO_legal 14 = .ok (.ifCond .le 21, 3) := by decide +kernel
theorem d_MO_legal_17 : decode b_MO_legal 17 = .ok (.iload_n 0, 1) := by decide +kernel
theorem d_MO_legal_18 : decode b_MO_legal 18 = .ok (.iconst 5, 1) := by decide +kernel
theorem d_MO_legal_19 : decode b_MO_legal 19 = .ok (.idiv, 1) := by decide +kernel
theorem d_MO_legal_20 : decode b_MO_legal 20 = .ok (.iconst 5, 1) := by decide +kernel
theorem d_MO_legal_21 : decode b_MO_legal 21 = .ok (.irem, 1) := by decide +kernel
theorem d_MO_legal_22 : decode b_MO_legal 22 = .ok (.ifCond .gt 9, 3) := by decide +kernel
theorem d_MO_legal_25 : decode b_MO_legal 25 = .ok (.iload_n 0, 1) := by decide +kernel
theorem d_MO_legal_26 : decode b_MO_legal 26 = .ok (.iconst 5, 1) := by decide +kernel
theorem d_MO_legal_27 : decode b_MO_legal 27 = .ok (.irem, 1) := by decide +kernel
theorem d_MO_legal_28 : decode b_MO_legal 28 = .ok (.ifCond .ne 7, 3) := by decide +kernel
theorem d_MO_legal_31 : decode b_MO_legal 31 = .ok (.iconst 1, 1) := by decide +kernel
theorem d_MO_legal_32 : decode b_MO_legal 32 = .ok (.goto 4, 3) := by decide +kernel
theorem d_MO_legal_35 : decode b_MO_legal 35 = .ok (.iconst 0, 1) := by decide +kernel
theorem d_MO_legal_36 : decode b_MO_legal 36 = .ok (.ireturn, 1) := by decide +kernel
theorem d_MO_load_0 : decode b_MO_load 0 = .ok (.iconst 0, 1) := by decide +kernel
theorem d_MO_load_1 : decode b_MO_load 1 = .ok (.istore_n 2, 1) := by decide +kernel
theorem d_MO_load_2 : decode b_MO_load 2 = .ok (.iload_n 2, 1) := by decide +kernel
theorem d_MO_load_3 : decode b_MO_load 3 = .ok (.bipush 125, 2) := by decide +kernel
theorem d_MO_load_5 : decode b_MO_load 5 = .ok (.if_icmp .ge 26, 3) := by decide +kernel
theorem d_MO_load_8 : decode b_MO_load 8 = .ok (.aload_n 0, 1) := by decide +kernel
theorem d_MO_load_9 : decode b_MO_load 9 = .ok (.getfield 28, 3) := by decide +kernel
theorem d_MO_load_12 : decode b_MO_load 12 = .ok (.iload_n 2, 1) := by decide +kernel
theorem d_MO_load_13 : decode b_MO_load 13 = .ok (.aload_n 0, 1) := by decide +kernel
theorem d_MO_load_14 : decode b_MO_load 14 = .ok (.getfield 13, 3) := by decide +kernel
theorem d_MO_load_17 : decode b_MO_load 17 = .ok (.bipush 125, 2) := by decide +kernel
theorem d_MO_load_19 : decode b_MO_load 19 = .ok (.iload_n 1, 1) := by decide +kernel
theorem d_MO_load_20 : decode b_MO_load 20 = .ok (.imul, 1) := by decide +kernel
theorem d_MO_load_21 : decode b_MO_load 21 = .ok (.iload_n 2, 1) := by decide +kernel
theorem d_MO_load_22 : decode b_MO_load 22 = .ok (.iadd, 1) := by decide +kernel
theorem d_MO_load_23 : decode b_MO_load 23 = .ok (.laload, 1) := by decide +kernel
theorem d_MO_load_24 : decode b_MO_load 24 = .ok (.lastore, 1) := by decide +kernel
theorem d_MO_load_25 : decode b_MO_load 25 = .ok (.iinc 2 1, 3) := by decide +kernel
theorem d_MO_load_28 : decode b_MO_load 28 = .ok (.goto (-26), 3) := by decide +kernel
theorem d_MO_load_31 : decode b_MO_load 31 = .ok (.return_, 1) := by decide +kernel
theorem d_MO_change_0 : decode b_MO_change 0 = .ok (.iload_n 1, 1) := by decide +kernel
theorem d_MO_change_1 : decode b_MO_change 1 = .ok (.tableswitch 139 0 3 #[31, 68, 105, 132], 31) := by decide +kernel
theorem d_MO_change_32 : decode b_MO_change 32 = .ok (.aload_n 0, 1) := by decide +kernel
theorem d_MO_change_33 : decode b_MO_change 33 = .ok (.iload_n 2, 1) := by decide +kernel
theorem d_MO_change_34 : decode b_MO_change 34 = .ok (.invokevirtual 71, 3) := by decide +kernel
theorem d_MO_change_37 : decode b_MO_change 37 = .ok (.ifCond .ne 30, 3) := by decide +kernel
theorem d_MO_change_40 : decode b_MO_change 40 = .ok (.aload_n 0, 1) := by decide +kernel
theorem d_MO_change_41 : decode b_MO_change 41 = .ok (.getfield 28, 3) := by decide +kernel
theorem d_MO_change_44 : decode b_MO_change 44 = .ok (.iload_n 2, 1) := by decide +kernel
theorem d_MO_change_45 : decode b_MO_change 45 = .ok (.laload, 1) := by decide +kernel
theorem d_MO_change_46 : decode b_MO_change 46 = .ok (.ldc2_w 34, 3) := by decide +kernel
theorem d_MO_change_49 : decode b_MO_change 49 = .ok (.lcmp, 1) := by decide +kernel
theorem d_MO_change_50 : decode b_MO_change 50 = .ok (.ifCond .eq 17, 3) := by decide +kernel
theorem d_MO_change_53 : decode b_MO_change 53 = .ok (.aload_n 0, 1) := by decide +kernel
theorem d_MO_change_54 : decode b_MO_change 54 = .ok (.iload_n 2, 1) := by decide +kernel
theorem d_MO_change_55 : decode b_MO_change 55 = .ok (.iload_n 3, 1) := by decide +kernel
theorem d_MO_change_56 : decode b_MO_change 56 = .ok (.i2l, 1) := by decide +kernel
theorem d_MO_change_57 : decode b_MO_change 57 = .ok (.invokevirtual 74, 3) := by decide +kernel
theorem d_MO_change_60 : decode b_MO_change 60 = .ok (.ifCond .eq 7, 3) := by decide +kernel
theorem d_MO_change_63 : decode b_MO_change 63 = .ok (.iconst 1, 1) := by decide +kernel
theorem d_MO_change_64 : decode b_MO_change 64 = .ok (.goto 4, 3) := by decide +kernel
theorem d_MO_change_67 : decode b_MO_change 67 = .ok (.iconst 0, 1) := by decide +kernel
theorem d_MO_change_68 : decode b_MO_change 68 = .ok (.ireturn, 1) := by decide +kernel
theorem d_MO_change_69 : decode b_MO_change 69 = .ok (.aload_n 0, 1) := by decide +kernel
theorem d_MO_change_70 : decode b_MO_change 70 = .ok (.iload_n 2, 1) := by decide +kernel
theorem d_MO_change_71 : decode b_MO_change 71 = .ok (.invokevirtual 71, 3) := by decide +kernel
theorem d_MO_change_74 : decode b_MO_change 74 = .ok (.ifCond .ne 30, 3) := by decide +kernel
theorem d_MO_change_77 : decode b_MO_change 77 = .ok (.aload_n 0, 1) := by decide +kernel
theorem d_MO_change_78 : decode b_MO_change 78 = .ok (.getfield 28, 3) := by decide +kernel
theorem d_MO_change_81 : decode b_MO_change 81 = .ok (.iload_n 2, 1) := by decide +kernel
theorem d_MO_change_82 : decode b_MO_change 82 = .ok (.laload, 1) := by decide +kernel
theorem d_MO_change_83 : decode b_MO_change 83 = .ok (.invokestatic 53, 3) := by decide +kernel
theorem d_MO_change_86 : decode b_MO_change 86 = .ok (.ifCond .ne 18, 3) := by decide +kernel
theorem d_MO_change_89 : decode b_MO_change 89 = .ok (.aload_n 0, 1) := by decide +kernel
theorem d_MO_change_90 : decode b_MO_change 90 = .ok (.iload_n 2, 1) := by decide +kernel
theorem d_MO_change_91 : decode b_MO_change 91 = .ok (.ldc2_w 34, 3) := by decide +kernel
theorem d_MO_change_94 : decode b_MO_change 94 = .ok (.invokevirtual 74, 3) := by decide +kernel
theorem d_MO_change_97 : decode b_MO_change 97 = .ok (.ifCond .eq 7, 3) := by decide +kernel
theorem d_MO_change_100 : decode b_MO_change 100 = .ok (.iconst 1, 1) := by decide +kernel
theorem d_MO_change_101 : decode b_MO_change 101 = .ok (.goto 4, 3) := by decide +kernel
theorem d_MO_change_104 : decode b_MO_change 104 = .ok (.iconst 0, 1) := by decide +kernel
theorem d_MO_change_105 : decode b_MO_change 105 = .ok (.ireturn, 1) := by decide +kernel
theorem d_MO_change_106 : decode b_MO_change 106 = .ok (.aload_n 0, 1) := by decide +kernel
theorem d_MO_change_107 : decode b_MO_change 107 = .ok (.getfield 28, 3) := by decide +kernel
theorem d_MO_change_110 : decode b_MO_change 110 = .ok (.iload_n 2, 1) := by decide +kernel
theorem d_MO_change_111 : decode b_MO_change 111 = .ok (.laload, 1) := by decide +kernel
theorem d_MO_change_112 : decode b_MO_change 112 = .ok (.ldc2_w 36, 3) := by decide +kernel
theorem d_MO_change_115 : decode b_MO_change 115 = .ok (.lcmp, 1) := by decide +kernel
theorem d_MO_change_116 : decode b_MO_change 116 = .ok (.ifCond .eq 15, 3) := by decide +kernel
theorem d_MO_change_119 : decode b_MO_change 119 = .ok (.aload_n 0, 1) := by decide +kernel
theorem d_MO_change_120 : decode b_MO_change 120 = .ok (.iload_n 2, 1) := by decide +kernel
theorem d_MO_change_121 : decode b_MO_change 121 = .ok (.invokevirtual 78, 3) := by decide +kernel
theorem d_MO_change_124 : decode b_MO_change 124 = .ok (.ifCond .eq 7, 3) := by decide +kernel
theorem d_MO_change_127 : decode b_MO_change 127 = .ok (.iconst 1, 1) := by decide +kernel
theorem d_MO_change_128 : decode b_MO_change 128 = .ok (.goto 4, 3) := by decide +kernel
theorem d_MO_change_131 : decode b_MO_change 131 = .ok (.iconst 0, 1) := by decide +kernel
theorem d_MO_change_132 : decode b_MO_change 132 = .ok (.ireturn, 1) := by decide +kernel
theorem d_MO_change_133 : decode b_MO_change 133 = .ok (.aload_n 0, 1) := by decide +kernel
theorem d_MO_change_134 : decode b_MO_change 134 = .ok (.iload_n 2, 1) := by decide +kernel
theorem d_MO_change_135 : decode b_MO_change 135 = .ok (.iload_n 3, 1) := by decide +kernel
theorem d_MO_change_136 : decode b_MO_change 136 = .ok (.invokevirtual 81, 3) := by decide +kernel
theorem d_MO_change_139 : decode b_MO_change 139 = .ok (.ireturn, 1) := by decide +kernel
theorem d_MO_change_140 : decode b_MO_change 140 = .ok (.aload_n 0, 1) := by decide +kernel
theorem d_MO_change_141 : decode b_MO_change 141 = .ok (.iload_n 2, 1) := by decide +kernel
theorem d_MO_change_142 : decode b_MO_change 142 = .ok (.iload_n 3, 1) := by decide +kernel
theorem d_MO_change_143 : decode b_MO_change 143 = .ok (.invokevirtual 81, 3) := by decide +kernel
theorem d_MO_change_146 : decode b_MO_change 146 = .ok (.ifCond .eq 15, 3) := by decide +kernel
theorem d_MO_change_149 : decode b_MO_change 149 = .ok (.aload_n 0, 1) := by decide +kernel
theorem d_MO_change_150 : decode b_MO_change 150 = .ok (.iload_n 2, 1) := by decide +kernel
theorem d_MO_change_151 : decode b_MO_change 151 = .ok (.invokevirtual 78, 3) := by decide +kernel
theorem d_MO_change_154 : decode b_MO_change 154 = .ok (.ifCond .eq 7, 3) := by decide +kernel
theorem d_MO_change_157 : decode b_MO_change 157 = .ok (.iconst 1, 1) := by decide +kernel
theorem d_MO_change_158 : decode b_MO_change 158 = .ok (.goto 4, 3) := by decide +kernel
theorem d_MO_change_161 : decode b_MO_change 161 = .ok (.iconst 0, 1) := by decide +kernel
theorem d_MO_change_162 : decode b_MO_change 162 = .ok (.ireturn, 1) := by decide +kernel
theorem d_MO_underFile_0 : decode b_MO_underFile 0 = .ok (.iconst 1, 1) := by decide +kernel
theorem d_MO_underFile_1 : decode b_MO_underFile 1 = .ok (.istore_n 2, 1) := by decide +kernel
theorem d_MO_underFile_2 : decode b_MO_underFile 2 = .ok (.iload_n 2, 1) := by decide +kernel
theorem d_MO_underFile_3 : decode b_MO_underFile 3 = .ok (.iload_n 1, 1) := by decide +kernel
theorem d_MO_underFile_4 : decode b_MO_underFile 4 = .ok (.invokestatic 38, 3) := by decide +kernel
theorem d_MO_underFile_7 : decode b_MO_underFile 7 = .ok (.if_icmp .ge 27, 3) := by decide +kernel
theorem d_MO_underFile_10 : decode b_MO_underFile 10 = .ok (.aload_n 0, 1) := by decide +kernel
theorem d_MO_underFile_11 : decode b_MO_underFile 11 = .ok (.getfield 28, 3) := by decide +kernel
theorem d_MO_underFile_14 : decode b_MO_underFile 14 = .ok (.iload_n 1, 1) := by decide +kernel
theorem d_MO_underFile_15 : decode b_MO_underFile 15 = .ok (.iload_n 2, 1) := by decide +kernel
theorem d_MO_underFile_16 : decode b_MO_underFile 16 = .ok (.invokestatic 42, 3) := by decide +kernel
theorem d_MO_underFile_19 : decode b_MO_underFile 19 = .ok (.laload, 1) := by decide +kernel
theorem d_MO_underFile_20 : decode b_MO_underFile 20 = .ok (.invokestatic 53, 3) := by decide +kernel
theorem d_MO_underFile_23 : decode b_MO_underFile 23 = .ok (.ifCond .eq 5, 3) := by decide +kernel
theorem d_MO_underFile_26 : decode b_MO_underFile 26 = .ok (.iconst 1, 1) := by decide +kernel
theorem d_MO_underFile_27 : decode b_MO_underFile 27 = .ok (.ireturn, 1) := by decide +kernel
theorem d_MO_underFile_28 : decode b_MO_underFile 28 = .ok (.iinc 2 1, 3) := by decide +kernel
theorem d_MO_underFile_31 : decode b_MO_underFile 31 = .ok (.goto (-29), 3) := by decide +kernel
theorem d_MO_underFile_34 : decode b_MO_underFile 34 = .ok (.iconst 0, 1) := by decide +kernel
theorem d_MO_underFile_35 : decode b_MO_underFile 35 = .ok (.ireturn, 1) := by decide +kernel
theorem d_MO_depth_0 : decode b_MO_depth 0 = .ok (.iload_n 0, 1) := by decide +kernel
theorem d_MO_depth_1 : decode b_MO_depth 1 = .ok (.ifCond .ne 7, 3) := by decide +kernel
theorem d_MO_depth_4 : decode b_MO_depth 4 = .ok (.iconst 0, 1) := by decide +kernel
theorem d_MO_depth_5 : decode b_MO_depth 5 = .ok (.goto 25, 3) := by decide +kernel
theorem d_MO_depth_8 : decode b_MO_depth 8 = .ok (.iload_n 0, 1) := by decide +kernel
theorem d_MO_depth_9 : decode b_MO_depth 9 = .ok (.bipush 25, 2) := by decide +kernel
theorem d_MO_depth_11 : decode b_MO_depth 11 = .ok (.irem, 1) := by decide +kernel
theorem d_MO_depth_12 : decode b_MO_depth 12 = .ok (.ifCond .ne 7, 3) := by decide +kernel
theorem d_MO_depth_15 : decode b_MO_depth 15 = .ok (.iconst 1, 1) := by decide +kernel
theorem d_MO_depth_16 : decode b_MO_depth 16 = .ok (.goto 14, 3) := by decide +kernel
theorem d_MO_depth_19 : decode b_MO_depth 19 = .ok (.iload_n 0, 1) := by decide +kernel
theorem d_MO_depth_20 : decode b_MO_depth 20 = .ok (.iconst 5, 1) := by decide +kernel
theorem d_MO_depth_21 : decode b_MO_depth 21 = .ok (.irem, 1) := by decide +kernel
theorem d_MO_depth_22 : decode b_MO_depth 22 = .ok (.ifCond .ne 7, 3) := by decide +kernel
theorem d_MO_depth_25 : decode b_MO_depth 25 = .ok (.iconst 2, 1) := by decide +kernel
theorem d_MO_depth_26 : decode b_MO_depth 26 = .ok (.goto 4, 3) := by decide +kernel
theorem d_MO_depth_29 : decode b_MO_depth 29 = .ok (.iconst 3, 1) := by decide +kernel
theorem d_MO_depth_30 : decode b_MO_depth 30 = .ok (.ireturn, 1) := by decide +kernel
theorem d_MO_head_0 : decode b_MO_head 0 = .ok (.iload_n 1, 1) := by decide +kernel
theorem d_MO_head_1 : decode b_MO_head 1 = .ok (.ifCond .ne 7, 3) := by decide +kernel
theorem d_MO_head_4 : decode b_MO_head 4 = .ok (.iconst 0, 1) := by decide +kernel
theorem d_MO_head_5 : decode b_MO_head 5 = .ok (.goto 32, 3) := by decide +kernel
theorem d_MO_head_8 : decode b_MO_head 8 = .ok (.iload_n 1, 1) := by decide +kernel
theorem d_MO_head_9 : decode b_MO_head 9 = .ok (.iconst 1, 1) := by decide +kernel
theorem d_MO_head_10 : decode b_MO_head 10 = .ok (.if_icmp .ne 13, 3) := by decide +kernel
theorem d_MO_head_13 : decode b_MO_head 13 = .ok (.iload_n 0, 1) := by decide +kernel
theorem d_MO_head_14 : decode b_MO_head 14 = .ok (.bipush 25, 2) := by decide +kernel
theorem d_MO_head_16 : decode b_MO_head 16 = .ok (.idiv, 1) := by decide +kernel
theorem d_MO_head_17 : decode b_MO_head 17 = .ok (.bipush 25, 2) := by decide +kernel
theorem d_MO_head_19 : decode b_MO_head 19 = .ok (.imul, 1) := by decide +kernel
theorem d_MO_head_20 : decode b_MO_head 20 = .ok (.goto 17, 3) := by decide +kernel
theorem d_MO_head_23 : decode b_MO_head 23 = .ok (.iload_n 1, 1) := by decide +kernel
theorem d_MO_head_24 : decode b_MO_head 24 = .ok (.iconst 2, 1) := by decide +kernel
theorem d_MO_head_25 : decode b_MO_head 25 = .ok (.if_icmp .ne 11, 3) := by decide +kernel
theorem d_MO_head_28 : decode b_MO_head 28 = .ok (.iload_n 0, 1) := by decide +kernel
theorem d_MO_head_29 : decode b_MO_head 29 = .ok (.iconst 5, 1) := by decide +kernel
theorem d_MO_head_30 : decode b_MO_head 30 = .ok (.idiv, 1) := by decide +kernel
theorem d_MO_head_31 : decode b_MO_head 31 = .ok (.iconst 5, 1) := by decide +kernel
theorem d_MO_head_32 : decode b_MO_head 32 = .ok (.imul, 1) := by decide +kernel
theorem d_MO_head_33 : decode b_MO_head 33 = .ok (.goto 4, 3) := by decide +kernel
theorem d_MO_head_36 : decode b_MO_head 36 = .ok (.iload_n 0, 1) := by decide +kernel
theorem d_MO_head_37 : decode b_MO_head 37 = .ok (.ireturn, 1) := by decide +kernel
theorem d_MO_file_0 : decode b_MO_file 0 = .ok (.lload_n 0, 1) := by decide +kernel
theorem d_MO_file_1 : decode b_MO_file 1 = .ok (.ldc2_w 36, 3) := by decide +kernel
theorem d_MO_file_4 : decode b_MO_file 4 = .ok (.lcmp, 1) := by decide +kernel
theorem d_MO_file_5 : decode b_MO_file 5 = .ok (.ifCond .eq 15, 3) := by decide +kernel
theorem d_MO_file_8 : decode b_MO_file 8 = .ok (.lload_n 0, 1) := by decide +kernel
theorem d_MO_file_9 : decode b_MO_file 9 = .ok (.ldc2_w 34, 3) := by decide +kernel
theorem d_MO_file_12 : decode b_MO_file 12 = .ok (.lcmp, 1) := by decide +kernel
theorem d_MO_file_13 : decode b_MO_file 13 = .ok (.ifCond .eq 7, 3) := by decide +kernel
theorem d_MO_file_16 : decode b_MO_file 16 = .ok (.iconst 1, 1) := by decide +kernel
theorem d_MO_file_17 : decode b_MO_file 17 = .ok (.goto 4, 3) := by decide +kernel
theorem d_MO_file_20 : decode b_MO_file 20 = .ok (.iconst 0, 1) := by decide +kernel
theorem d_MO_file_21 : decode b_MO_file 21 = .ok (.ireturn, 1) := by decide +kernel
theorem d_MO_raise_0 : decode b_MO_raise 0 = .ok (.iconst 1, 1) := by decide +kernel
theorem d_MO_raise_1 : decode b_MO_raise 1 = .ok (.istore 4, 2) := by decide +kernel
theorem d_MO_raise_3 : decode b_MO_raise 3 = .ok (.iload 4, 2) := by decide +kernel
theorem d_MO_raise_5 : decode b_MO_raise 5 = .ok (.iload_n 1, 1) := by decide +kernel
theorem d_MO_raise_6 : decode b_MO_raise 6 = .ok (.invokestatic 38, 3) := by decide +kernel
theorem d_MO_raise_9 : decode b_MO_raise 9 = .ok (.if_icmp .ge 23, 3) := by decide +kernel
theorem d_MO_raise_12 : decode b_MO_raise 12 = .ok (.aload_n 0, 1) := by decide +kernel
theorem d_MO_raise_13 : decode b_MO_raise 13 = .ok (.getfield 28, 3) := by decide +kernel
theorem d_MO_raise_16 : decode b_MO_raise 16 = .ok (.iload_n 1, 1) := by decide +kernel
theorem d_MO_raise_17 : decode b_MO_raise 17 = .ok (.iload 4, 2) := by decide +kernel
theorem d_MO_raise_19 : decode b_MO_raise 19 = .ok (.invokestatic 42, 3) := by decide +kernel
theorem d_MO_raise_22 : decode b_MO_raise 22 = .ok (.ldc2_w 34, 3) := by decide +kernel
theorem d_MO_raise_25 : decode b_MO_raise 25 = .ok (.lastore, 1) := by decide +kernel
theorem d_MO_raise_26 : decode b_MO_raise 26 = .ok (.iinc 4 1, 3) := by decide +kernel
theorem d_MO_raise_29 : decode b_MO_raise 29 = .ok (.goto (-26), 3) := by decide +kernel
theorem d_MO_raise_32 : decode b_MO_raise 32 = .ok (.aload_n 0, 1) := by decide +kernel
theorem d_MO_raise_33 : decode b_MO_raise 33 = .ok (.getfield 28, 3) := by decide +kernel
theorem d_MO_raise_36 : decode b_MO_raise 36 = .ok (.iload_n 1, 1) := by decide +kernel
theorem d_MO_raise_37 : decode b_MO_raise 37 = .ok (.lload_n 2, 1) := by decide +kernel
theorem d_MO_raise_38 : decode b_MO_raise 38 = .ok (.lastore, 1) := by decide +kernel
theorem d_MO_raise_39 : decode b_MO_raise 39 = .ok (.iconst 1, 1) := by decide +kernel
theorem d_MO_raise_40 : decode b_MO_raise 40 = .ok (.ireturn, 1) := by decide +kernel
theorem d_MO_wipe_0 : decode b_MO_wipe 0 = .ok (.iconst 1, 1) := by decide +kernel
theorem d_MO_wipe_1 : decode b_MO_wipe 1 = .ok (.istore_n 2, 1) := by decide +kernel
theorem d_MO_wipe_2 : decode b_MO_wipe 2 = .ok (.iload_n 2, 1) := by decide +kernel
theorem d_MO_wipe_3 : decode b_MO_wipe 3 = .ok (.bipush 125, 2) := by decide +kernel
theorem d_MO_wipe_5 : decode b_MO_wipe 5 = .ok (.if_icmp .ge 31, 3) := by decide +kernel
theorem d_MO_wipe_8 : decode b_MO_wipe 8 = .ok (.iload_n 2, 1) := by decide +kernel
theorem d_MO_wipe_9 : decode b_MO_wipe 9 = .ok (.iload_n 1, 1) := by decide +kernel
theorem d_MO_wipe_10 : decode b_MO_wipe 10 = .ok (.if_icmp .eq 11, 3) := by decide +kernel
theorem d_MO_wipe_13 : decode b_MO_wipe 13 = .ok (.iload_n 2, 1) := by decide +kernel
theorem d_MO_wipe_14 : decode b_MO_wipe 14 = .ok (.iload_n 1, 1) := by decide +kernel
theorem d_MO_wipe_15 : decode b_MO_wipe 15 = .ok (.invokestatic 57, 3) := by decide +kernel
theorem d_MO_wipe_18 : decode b_MO_wipe 18 = .ok (.ifCond .eq 12, 3) := by decide +kernel
theorem d_MO_wipe_21 : decode b_MO_wipe 21 = .ok (.aload_n 0, 1) := by decide +kernel
theorem d_MO_wipe_22 : decode b_MO_wipe 22 = .ok (.getfield 28, 3) := by decide +kernel
theorem d_MO_wipe_25 : decode b_MO_wipe 25 = .ok (.iload_n 2, 1) := by decide +kernel
theorem d_MO_wipe_26 : decode b_MO_wipe 26 = .ok (.ldc2_w 36, 3) := by decide +kernel
theorem d_MO_wipe_29 : decode b_MO_wipe 29 = .ok (.lastore, 1) := by decide +kernel
theorem d_MO_wipe_30 : decode b_MO_wipe 30 = .ok (.iinc 2 1, 3) := by decide +kernel
theorem d_MO_wipe_33 : decode b_MO_wipe 33 = .ok (.goto (-31), 3) := by decide +kernel
theorem d_MO_wipe_36 : decode b_MO_wipe 36 = .ok (.iconst 1, 1) := by decide +kernel
theorem d_MO_wipe_37 : decode b_MO_wipe 37 = .ok (.ireturn, 1) := by decide +kernel
theorem d_MO_below_0 : decode b_MO_below 0 = .ok (.iload_n 0, 1) := by decide +kernel
theorem d_MO_below_1 : decode b_MO_below 1 = .ok (.invokestatic 46, 3) := by decide +kernel
theorem d_MO_below_4 : decode b_MO_below 4 = .ok (.ifCond .eq 30, 3) := by decide +kernel
theorem d_MO_below_7 : decode b_MO_below 7 = .ok (.iload_n 0, 1) := by decide +kernel
theorem d_MO_below_8 : decode b_MO_below 8 = .ok (.invokestatic 38, 3) := by decide +kernel
theorem d_MO_below_11 : decode b_MO_below 11 = .ok (.iload_n 1, 1) := by decide +kernel
theorem d_MO_below_12 : decode b_MO_below 12 = .ok (.invokestatic 38, 3) := by decide +kernel
theorem d_MO_below_15 : decode b_MO_below 15 = .ok (.if_icmp .le 19, 3) := by decide +kernel
theorem d_MO_below_18 : decode b_MO_below 18 = .ok (.iload_n 0, 1) := by decide +kernel
theorem d_MO_below_19 : decode b_MO_below 19 = .ok (.iload_n 1, 1) := by decide +kernel
theorem d_MO_below_20 : decode b_MO_below 20 = .ok (.invokestatic 38, 3) := by decide +kernel
theorem d_MO_below_23 : decode b_MO_below 23 = .ok (.invokestatic 42, 3) := by decide +kernel

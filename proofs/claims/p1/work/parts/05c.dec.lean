theorem dX13_laysLine_43 : decode cX13_laysLine 43 = .ok (.iadd, 1) := by decide +kernel
theorem dX13_laysLine_44 : decode cX13_laysLine 44 = .ok (.iaload, 1) := by decide +kernel
theorem dX13_laysLine_45 : decode cX13_laysLine 45 = .ok (.iastore, 1) := by decide +kernel
theorem dX13_laysLine_46 : decode cX13_laysLine 46 = .ok (.iinc 3 1, 3) := by decide +kernel
theorem dX13_laysLine_49 : decode cX13_laysLine 49 = .ok (.goto (-35), 3) := by decide +kernel
theorem dX13_laysLine_52 : decode cX13_laysLine 52 = .ok (.return_, 1) := by decide +kernel
theorem dX13_takesLinesOf_0 : decode cX13_takesLinesOf 0 = .ok (.aload_n 0, 1) := by decide +kernel
theorem dX13_takesLinesOf_1 : decode cX13_takesLinesOf 1 = .ok (.getfield 13, 3) := by decide +kernel
theorem dX13_takesLinesOf_4 : decode cX13_takesLinesOf 4 = .ok (.istore_n 3, 1) := by decide +kernel
theorem dX13_takesLinesOf_5 : decode cX13_takesLinesOf 5 = .ok (.aload_n 0, 1) := by decide +kernel
theorem dX13_takesLinesOf_6 : decode cX13_takesLinesOf 6 = .ok (.iload_n 1, 1) := by decide +kernel
theorem dX13_takesLinesOf_7 : decode cX13_takesLinesOf 7 = .ok (.iload_n 2, 1) := by decide +kernel
theorem dX13_takesLinesOf_8 : decode cX13_takesLinesOf 8 = .ok (.invokevirtual 272, 3) := by decide +kernel
theorem dX13_takesLinesOf_11 : decode cX13_takesLinesOf 11 = .ok (.aload_n 0, 1) := by decide +kernel
theorem dX13_takesLinesOf_12 : decode cX13_takesLinesOf 12 = .ok (.iload_n 3, 1) := by decide +kernel
theorem dX13_takesLinesOf_13 : decode cX13_takesLinesOf 13 = .ok (.iload_n 2, 1) := by decide +kernel
theorem dX13_takesLinesOf_14 : decode cX13_takesLinesOf 14 = .ok (.iload_n 1, 1) := by decide +kernel
theorem dX13_takesLinesOf_15 : decode cX13_takesLinesOf 15 = .ok (.isub, 1) := by decide +kernel
theorem dX13_takesLinesOf_16 : decode cX13_takesLinesOf 16 = .ok (.iconst 1, 1) := by decide +kernel
theorem dX13_takesLinesOf_17 : decode cX13_takesLinesOf 17 = .ok (.iadd, 1) := by decide +kernel
theorem dX13_takesLinesOf_18 : decode cX13_takesLinesOf 18 = .ok (.isub, 1) := by decide +kernel
theorem dX13_takesLinesOf_19 : decode cX13_takesLinesOf 19 = .ok (.putfield 13, 3) := by decide +kernel
theorem dX13_takesLinesOf_22 : decode cX13_takesLinesOf 22 = .ok (.return_, 1) := by decide +kernel
theorem dX13_isLess_0 : decode cX13_isLess 0 = .ok (.iconst 0, 1) := by decide +kernel
theorem dX13_isLess_1 : decode cX13_isLess 1 = .ok (.istore_n 3, 1) := by decide +kernel
theorem dX13_isLess_2 : decode cX13_isLess 2 = .ok (.iload_n 3, 1) := by decide +kernel
theorem dX13_isLess_3 : decode cX13_isLess 3 = .ok (.aload_n 0, 1) := by decide +kernel
theorem dX13_isLess_4 : decode cX13_isLess 4 = .ok (.getfield 157, 3) := by decide +kernel
theorem dX13_isLess_7 : decode cX13_isLess 7 = .ok (.iload_n 1, 1) := by decide +kernel
theorem dX13_isLess_8 : decode cX13_isLess 8 = .ok (.iaload, 1) := by decide +kernel
theorem dX13_isLess_9 : decode cX13_isLess 9 = .ok (.if_icmp .ge 44, 3) := by decide +kernel
theorem dX13_isLess_12 : decode cX13_isLess 12 = .ok (.iload_n 3, 1) := by decide +kernel
theorem dX13_isLess_13 : decode cX13_isLess 13 = .ok (.aload_n 0, 1) := by decide +kernel
theorem dX13_isLess_14 : decode cX13_isLess 14 = .ok (.getfield 157, 3) := by decide +kernel
theorem dX13_isLess_17 : decode cX13_isLess 17 = .ok (.iload_n 2, 1) := by decide +kernel
theorem dX13_isLess_18 : decode cX13_isLess 18 = .ok (.iaload, 1) := by decide +kernel
theorem dX13_isLess_19 : decode cX13_isLess 19 = .ok (.if_icmp .ge 34, 3) := by decide +kernel
theorem dX13_isLess_22 : decode cX13_isLess 22 = .ok (.aload_n 0, 1) := by decide +kernel
theorem dX13_isLess_23 : decode cX13_isLess 23 = .ok (.getfield 160, 3) := by decide +kernel
theorem dX13_isLess_26 : decode cX13_isLess 26 = .ok (.bipush 60, 2) := by decide +kernel
theorem dX13_isLess_28 : decode cX13_isLess 28 = .ok (.iload_n 1, 1) := by decide +kernel
theorem dX13_isLess_29 : decode cX13_isLess 29 = .ok (.imul, 1) := by decide +kernel
theorem dX13_isLess_30 : decode cX13_isLess 30 = .ok (.iload_n 3, 1) := by decide +kernel
theorem dX13_isLess_31 : decode cX13_isLess 31 = .ok (.iadd, 1) := by decide +kernel
theorem dX13_isLess_32 : decode cX13_isLess 32 = .ok (.iaload, 1) := by decide +kernel
theorem dX13_isLess_33 : decode cX13_isLess 33 = .ok (.aload_n 0, 1) := by decide +kernel
theorem dX13_isLess_34 : decode cX13_isLess 34 = .ok (.getfield 160, 3) := by decide +kernel
theorem dX13_isLess_37 : decode cX13_isLess 37 = .ok (.bipush 60, 2) := by decide +kernel
theorem dX13_isLess_39 : decode cX13_isLess 39 = .ok (.iload_n 2, 1) := by decide +kernel
theorem dX13_isLess_40 : decode cX13_isLess 40 = .ok (.imul, 1) := by decide +kernel
theorem dX13_isLess_41 : decode cX13_isLess 41 = .ok (.iload_n 3, 1) := by decide +kernel
theorem dX13_isLess_42 : decode cX13_isLess 42 = .ok (.iadd, 1) := by decide +kernel
theorem dX13_isLess_43 : decode cX13_isLess 43 = .ok (.iaload, 1) := by decide +kernel
theorem dX13_isLess_44 : decode cX13_isLess 44 = .ok (.if_icmp .ne 9, 3) := by decide +kernel
theorem dX13_isLess_47 : decode cX13_isLess 47 = .ok (.iinc 3 1, 3) := by decide +kernel
theorem dX13_isLess_50 : decode cX13_isLess 50 = .ok (.goto (-48), 3) := by decide +kernel
theorem dX13_isLess_53 : decode cX13_isLess 53 = .ok (.iload_n 3, 1) := by decide +kernel
theorem dX13_isLess_54 : decode cX13_isLess 54 = .ok (.aload_n 0, 1) := by decide +kernel
theorem dX13_isLess_55 : decode cX13_isLess 55 = .ok (.getfield 157, 3) := by decide +kernel
theorem dX13_isLess_58 : decode cX13_isLess 58 = .ok (.iload_n 1, 1) := by decide +kernel
theorem dX13_isLess_59 : decode cX13_isLess 59 = .ok (.iaload, 1) := by decide +kernel
theorem dX13_isLess_60 : decode cX13_isLess 60 = .ok (.if_icmp .eq 13, 3) := by decide +kernel
theorem dX13_isLess_63 : decode cX13_isLess 63 = .ok (.iload_n 3, 1) := by decide +kernel
theorem dX13_isLess_64 : decode cX13_isLess 64 = .ok (.aload_n 0, 1) := by decide +kernel
theorem dX13_isLess_65 : decode cX13_isLess 65 = .ok (.getfield 157, 3) := by decide +kernel
theorem dX13_isLess_68 : decode cX13_isLess 68 = .ok (.iload_n 2, 1) := by decide +kernel
theorem dX13_isLess_69 : decode cX13_isLess 69 = .ok (.iaload, 1) := by decide +kernel
theorem dX13_isLess_70 : decode cX13_isLess 70 = .ok (.if_icmp .ne 24, 3) := by decide +kernel
theorem dX13_isLess_73 : decode cX13_isLess 73 = .ok (.aload_n 0, 1) := by decide +kernel
theorem dX13_isLess_74 : decode cX13_isLess 74 = .ok (.getfield 157, 3) := by decide +kernel
theorem dX13_isLess_77 : decode cX13_isLess 77 = .ok (.iload_n 1, 1) := by decide +kernel
theorem dX13_isLess_78 : decode cX13_isLess 78 = .ok (.iaload, 1) := by decide +kernel
theorem dX13_isLess_79 : decode cX13_isLess 79 = .ok (.aload_n 0, 1) := by decide +kernel
theorem dX13_isLess_80 : decode cX13_isLess 80 = .ok (.getfield 157, 3) := by decide +kernel
theorem dX13_isLess_83 : decode cX13_isLess 83 = .ok (.iload_n 2, 1) := by decide +kernel
theorem dX13_isLess_84 : decode cX13_isLess 84 = .ok (.iaload, 1) := by decide +kernel
theorem dX13_isLess_85 : decode cX13_isLess 85 = .ok (.if_icmp .ge 7, 3) := by decide +kernel
theorem dX13_isLess_88 : decode cX13_isLess 88 = .ok (.iconst 1, 1) := by decide +kernel
theorem dX13_isLess_89 : decode cX13_isLess 89 = .ok (.goto 4, 3) := by decide +kernel
theorem dX13_isLess_92 : decode cX13_isLess 92 = .ok (.iconst 0, 1) := by decide +kernel
theorem dX13_isLess_93 : decode cX13_isLess 93 = .ok (.ireturn, 1) := by decide +kernel
theorem dX13_isLess_94 : decode cX13_isLess 94 = .ok (.aload_n 0, 1) := by decide +kernel
theorem dX13_isLess_95 : decode cX13_isLess 95 = .ok (.getfield 160, 3) := by decide +kernel
theorem dX13_isLess_98 : decode cX13_isLess 98 = .ok (.bipush 60, 2) := by decide +kernel
theorem dX13_isLess_100 : decode cX13_isLess 100 = .ok (.iload_n 1, 1) := by decide +kernel
theorem dX13_isLess_101 : decode cX13_isLess 101 = .ok (.imul, 1) := by decide +kernel
theorem dX13_isLess_102 : decode cX13_isLess 102 = .ok (.iload_n 3, 1) := by decide +kernel
theorem dX13_isLess_103 : decode cX13_isLess 103 = .ok (.iadd, 1) := by decide +kernel
theorem dX13_isLess_104 : decode cX13_isLess 104 = .ok (.iaload, 1) := by decide +kernel
theorem dX13_isLess_105 : decode cX13_isLess 105 = .ok (.aload_n 0, 1) := by decide +kernel
theorem dX13_isLess_106 : decode cX13_isLess 106 = .ok (.getfield 160, 3) := by decide +kernel
theorem dX13_isLess_109 : decode cX13_isLess 109 = .ok (.bipush 60, 2) := by decide +kernel
theorem dX13_isLess_111 : decode cX13_isLess 111 = .ok (.iload_n 2, 1) := by decide +kernel
theorem dX13_isLess_112 : decode cX13_isLess 112 = .ok (.imul, 1) := by decide +kernel
theorem dX13_isLess_113 : decode cX13_isLess 113 = .ok (.iload_n 3, 1) := by decide +kernel
theorem dX13_isLess_114 : decode cX13_isLess 114 = .ok (.iadd, 1) := by decide +kernel
theorem dX13_isLess_115 : decode cX13_isLess 115 = .ok (.iaload, 1) := by decide +kernel
theorem dX13_isLess_116 : decode cX13_isLess 116 = .ok (.if_icmp .ge 7, 3) := by decide +kernel
theorem dX13_isLess_119 : decode cX13_isLess 119 = .ok (.iconst 1, 1) := by decide +kernel
theorem dX13_isLess_120 : decode cX13_isLess 120 = .ok (.goto 4, 3) := by decide +kernel
theorem dX13_isLess_123 : decode cX13_isLess 123 = .ok (.iconst 0, 1) := by decide +kernel
theorem dX13_isLess_124 : decode cX13_isLess 124 = .ok (.ireturn, 1) := by decide +kernel
theorem dX13_sorts_0 : decode cX13_sorts 0 = .ok (.aload_n 0, 1) := by decide +kernel
theorem dX13_sorts_1 : decode cX13_sorts 1 = .ok (.getfield 873, 3) := by decide +kernel
theorem dX13_sorts_4 : decode cX13_sorts 4 = .ok (.aload_n 0, 1) := by decide +kernel
theorem dX13_sorts_5 : decode cX13_sorts 5 = .ok (.getfield 870, 3) := by decide +kernel
theorem dX13_sorts_8 : decode cX13_sorts 8 = .ok (.isub, 1) := by decide +kernel
theorem dX13_sorts_9 : decode cX13_sorts 9 = .ok (.iconst 1, 1) := by decide +kernel
theorem dX13_sorts_10 : decode cX13_sorts 10 = .ok (.iadd, 1) := by decide +kernel
theorem dX13_sorts_11 : decode cX13_sorts 11 = .ok (.istore_n 1, 1) := by decide +kernel
theorem dX13_sorts_12 : decode cX13_sorts 12 = .ok (.aload_n 0, 1) := by decide +kernel
theorem dX13_sorts_13 : decode cX13_sorts 13 = .ok (.invokevirtual 883, 3) := by decide +kernel
theorem dX13_sorts_16 : decode cX13_sorts 16 = .ok (.iconst 0, 1) := by decide +kernel
theorem dX13_sorts_17 : decode cX13_sorts 17 = .ok (.istore_n 2, 1) := by decide +kernel
theorem dX13_sorts_18 : decode cX13_sorts 18 = .ok (.iconst 0, 1) := by decide +kernel
theorem dX13_sorts_19 : decode cX13_sorts 19 = .ok (.istore_n 3, 1) := by decide +kernel
theorem dX13_sorts_20 : decode cX13_sorts 20 = .ok (.iload_n 3, 1) := by decide +kernel
theorem dX13_sorts_21 : decode cX13_sorts 21 = .ok (.iload_n 1, 1) := by decide +kernel
theorem dX13_sorts_22 : decode cX13_sorts 22 = .ok (.if_icmp .ge 87, 3) := by decide +kernel
theorem dX13_sorts_25 : decode cX13_sorts 25 = .ok (.iconst 0, 1) := by decide +kernel
theorem dX13_sorts_26 : decode cX13_sorts 26 = .ok (.istore 4, 2) := by decide +kernel
theorem dX13_sorts_28 : decode cX13_sorts 28 = .ok (.iconst 0, 1) := by decide +kernel
theorem dX13_sorts_29 : decode cX13_sorts 29 = .ok (.istore 5, 2) := by decide +kernel
theorem dX13_sorts_31 : decode cX13_sorts 31 = .ok (.iload 5, 2) := by decide +kernel
theorem dX13_sorts_33 : decode cX13_sorts 33 = .ok (.iload_n 1, 1) := by decide +kernel
theorem dX13_sorts_34 : decode cX13_sorts 34 = .ok (.if_icmp .ge 45, 3) := by decide +kernel
theorem dX13_sorts_37 : decode cX13_sorts 37 = .ok (.iload 4, 2) := by decide +kernel
theorem dX13_sorts_39 : decode cX13_sorts 39 = .ok (.aload_n 0, 1) := by decide +kernel
theorem dX13_sorts_40 : decode cX13_sorts 40 = .ok (.iload 5, 2) := by decide +kernel
theorem dX13_sorts_42 : decode cX13_sorts 42 = .ok (.iload_n 3, 1) := by decide +kernel
theorem dX13_sorts_43 : decode cX13_sorts 43 = .ok (.invokevirtual 892, 3) := by decide +kernel
theorem dX13_sorts_46 : decode cX13_sorts 46 = .ok (.ifCond .ne 19, 3) := by decide +kernel
theorem dX13_sorts_49 : decode cX13_sorts 49 = .ok (.iload 5, 2) := by decide +kernel
theorem dX13_sorts_51 : decode cX13_sorts 51 = .ok (.iload_n 3, 1) := by decide +kernel
theorem dX13_sorts_52 : decode cX13_sorts 52 = .ok (.if_icmp .ge 17, 3) := by decide +kernel
theorem dX13_sorts_55 : decode cX13_sorts 55 = .ok (.aload_n 0, 1) := by decide +kernel
theorem dX13_sorts_56 : decode cX13_sorts 56 = .ok (.iload_n 3, 1) := by decide +kernel
theorem dX13_sorts_57 : decode cX13_sorts 57 = .ok (.iload 5, 2) := by decide +kernel
theorem dX13_sorts_59 : decode cX13_sorts 59 = .ok (.invokevirtual 892, 3) := by decide +kernel
theorem dX13_sorts_62 : decode cX13_sorts 62 = .ok (.ifCond .ne 7, 3) := by decide +kernel
theorem dX13_sorts_65 : decode cX13_sorts 65 = .ok (.iconst 1, 1) := by decide +kernel
theorem dX13_sorts_66 : decode cX13_sorts 66 = .ok (.goto 4, 3) := by decide +kernel
theorem dX13_sorts_69 : decode cX13_sorts 69 = .ok (.iconst 0, 1) := by decide +kernel
theorem dX13_sorts_70 : decode cX13_sorts 70 = .ok (.iadd, 1) := by decide +kernel
theorem dX13_sorts_71 : decode cX13_sorts 71 = .ok (.istore 4, 2) := by decide +kernel
theorem dX13_sorts_73 : decode cX13_sorts 73 = .ok (.iinc 5 1, 3) := by decide +kernel
theorem dX13_sorts_76 : decode cX13_sorts 76 = .ok (.goto (-45), 3) := by decide +kernel
theorem dX13_sorts_79 : decode cX13_sorts 79 = .ok (.aload_n 0, 1) := by decide +kernel
theorem dX13_sorts_80 : decode cX13_sorts 80 = .ok (.getfield 163, 3) := by decide +kernel
theorem dX13_sorts_83 : decode cX13_sorts 83 = .ok (.iload 4, 2) := by decide +kernel
theorem dX13_sorts_85 : decode cX13_sorts 85 = .ok (.iload_n 3, 1) := by decide +kernel
theorem dX13_sorts_86 : decode cX13_sorts 86 = .ok (.iastore, 1) := by decide +kernel
theorem dX13_sorts_87 : decode cX13_sorts 87 = .ok (.iload_n 2, 1) := by decide +kernel
theorem dX13_sorts_88 : decode cX13_sorts 88 = .ok (.ifCond .ne 9, 3) := by decide +kernel
theorem dX13_sorts_91 : decode cX13_sorts 91 = .ok (.iload 4, 2) := by decide +kernel
theorem dX13_sorts_93 : decode cX13_sorts 93 = .ok (.iload_n 3, 1) := by decide +kernel
theorem dX13_sorts_94 : decode cX13_sorts 94 = .ok (.if_icmp .eq 7, 3) := by decide +kernel
theorem dX13_sorts_97 : decode cX13_sorts 97 = .ok (.iconst 1, 1) := by decide +kernel
theorem dX13_sorts_98 : decode cX13_sorts 98 = .ok (.goto 4, 3) := by decide +kernel
theorem dX13_sorts_101 : decode cX13_sorts 101 = .ok (.iconst 0, 1) := by decide +kernel
theorem dX13_sorts_102 : decode cX13_sorts 102 = .ok (.istore_n 2, 1) := by decide +kernel
theorem dX13_sorts_103 : decode cX13_sorts 103 = .ok (.iinc 3 1, 3) := by decide +kernel
theorem dX13_sorts_106 : decode cX13_sorts 106 = .ok (.goto (-86), 3) := by decide +kernel
theorem dX13_sorts_109 : decode cX13_sorts 109 = .ok (.iload_n 2, 1) := by decide +kernel
theorem dX13_sorts_110 : decode cX13_sorts 110 = .ok (.ifCond .eq 53, 3) := by decide +kernel
theorem dX13_sorts_113 : decode cX13_sorts 113 = .ok (.aload_n 0, 1) := by decide +kernel
theorem dX13_sorts_114 : decode cX13_sorts 114 = .ok (.aload_n 0, 1) := by decide +kernel
theorem dX13_sorts_115 : decode cX13_sorts 115 = .ok (.getfield 870, 3) := by decide +kernel
theorem dX13_sorts_118 : decode cX13_sorts 118 = .ok (.aload_n 0, 1) := by decide +kernel
theorem dX13_sorts_119 : decode cX13_sorts 119 = .ok (.getfield 873, 3) := by decide +kernel
theorem dX13_sorts_122 : decode cX13_sorts 122 = .ok (.invokevirtual 886, 3) := by decide +kernel
theorem dX13_sorts_125 : decode cX13_sorts 125 = .ok (.aload_n 0, 1) := by decide +kernel
theorem dX13_sorts_126 : decode cX13_sorts 126 = .ok (.aload_n 0, 1) := by decide +kernel
theorem dX13_sorts_127 : decode cX13_sorts 127 = .ok (.getfield 870, 3) := by decide +kernel
theorem dX13_sorts_130 : decode cX13_sorts 130 = .ok (.iload_n 1, 1) := by decide +kernel
theorem dX13_sorts_131 : decode cX13_sorts 131 = .ok (.invokevirtual 278, 3) := by decide +kernel
theorem dX13_sorts_134 : decode cX13_sorts 134 = .ok (.iconst 0, 1) := by decide +kernel
theorem dX13_sorts_135 : decode cX13_sorts 135 = .ok (.istore_n 3, 1) := by decide +kernel
theorem dX13_sorts_136 : decode cX13_sorts 136 = .ok (.iload_n 3, 1) := by decide +kernel
theorem dX13_sorts_137 : decode cX13_sorts 137 = .ok (.iload_n 1, 1) := by decide +kernel
theorem dX13_sorts_138 : decode cX13_sorts 138 = .ok (.if_icmp .ge 25, 3) := by decide +kernel
theorem dX13_sorts_141 : decode cX13_sorts 141 = .ok (.aload_n 0, 1) := by decide +kernel
theorem dX13_sorts_142 : decode cX13_sorts 142 = .ok (.aload_n 0, 1) := by decide +kernel
theorem dX13_sorts_143 : decode cX13_sorts 143 = .ok (.getfield 870, 3) := by decide +kernel
theorem dX13_sorts_146 : decode cX13_sorts 146 = .ok (.iload_n 3, 1) := by decide +kernel
theorem dX13_sorts_147 : decode cX13_sorts 147 = .ok (.iadd, 1) := by decide +kernel
theorem dX13_sorts_148 : decode cX13_sorts 148 = .ok (.aload_n 0, 1) := by decide +kernel
theorem dX13_sorts_149 : decode cX13_sorts 149 = .ok (.getfield 163, 3) := by decide +kernel
theorem dX13_sorts_152 : decode cX13_sorts 152 = .ok (.iload_n 3, 1) := by decide +kernel
theorem dX13_sorts_153 : decode cX13_sorts 153 = .ok (.iaload, 1) := by decide +kernel
theorem dX13_sorts_154 : decode cX13_sorts 154 = .ok (.invokevirtual 889, 3) := by decide +kernel
theorem dX13_sorts_157 : decode cX13_sorts 157 = .ok (.iinc 3 1, 3) := by decide +kernel
theorem dX13_sorts_160 : decode cX13_sorts 160 = .ok (.goto (-24), 3) := by decide +kernel
theorem dX13_sorts_163 : decode cX13_sorts 163 = .ok (.aload_n 0, 1) := by decide +kernel
theorem dX13_sorts_164 : decode cX13_sorts 164 = .ok (.aload_n 0, 1) := by decide +kernel
theorem dX13_sorts_165 : decode cX13_sorts 165 = .ok (.getfield 873, 3) := by decide +kernel
theorem dX13_sorts_168 : decode cX13_sorts 168 = .ok (.invokevirtual 507, 3) := by decide +kernel
theorem dX13_sorts_171 : decode cX13_sorts 171 = .ok (.iconst 1, 1) := by decide +kernel
theorem dX13_sorts_172 : decode cX13_sorts 172 = .ok (.ireturn, 1) := by decide +kernel
theorem dX13_standsIn_0 : decode cX13_standsIn 0 = .ok (.iload 4, 2) := by decide +kernel
theorem dX13_standsIn_2 : decode cX13_standsIn 2 = .ok (.iload_n 3, 1) := by decide +kernel
theorem dX13_standsIn_3 : decode cX13_standsIn 3 = .ok (.if_icmp .le 22, 3) := by decide +kernel
theorem dX13_standsIn_6 : decode cX13_standsIn 6 = .ok (.iload_n 2, 1) := by decide +kernel
theorem dX13_standsIn_7 : decode cX13_standsIn 7 = .ok (.iload 4, 2) := by decide +kernel
theorem dX13_standsIn_9 : decode cX13_standsIn 9 = .ok (.iadd, 1) := by decide +kernel
theorem dX13_standsIn_10 : decode cX13_standsIn 10 = .ok (.iload_n 3, 1) := by decide +kernel
theorem dX13_standsIn_11 : decode cX13_standsIn 11 = .ok (.isub, 1) := by decide +kernel
theorem dX13_standsIn_12 : decode cX13_standsIn 12 = .ok (.aload_n 0, 1) := by decide +kernel
theorem dX13_standsIn_13 : decode cX13_standsIn 13 = .ok (.getfield 17, 3) := by decide +kernel
theorem dX13_standsIn_16 : decode cX13_standsIn 16 = .ok (.iload_n 1, 1) := by decide +kernel
theorem dX13_standsIn_17 : decode cX13_standsIn 17 = .ok (.iaload, 1) := by decide +kernel
theorem dX13_standsIn_18 : decode cX13_standsIn 18 = .ok (.if_icmp .gt 7, 3) := by decide +kernel
theorem dX13_standsIn_21 : decode cX13_standsIn 21 = .ok (.iconst 1, 1) := by decide +kernel
theorem dX13_standsIn_22 : decode cX13_standsIn 22 = .ok (.goto 4, 3) := by decide +kernel
theorem dX13_standsIn_25 : decode cX13_standsIn 25 = .ok (.iconst 0, 1) := by decide +kernel
theorem dX13_standsIn_26 : decode cX13_standsIn 26 = .ok (.istore 5, 2) := by decide +kernel
theorem dX13_standsIn_28 : decode cX13_standsIn 28 = .ok (.iload_n 3, 1) := by decide +kernel
theorem dX13_standsIn_29 : decode cX13_standsIn 29 = .ok (.istore 6, 2) := by decide +kernel
theorem dX13_standsIn_31 : decode cX13_standsIn 31 = .ok (.iload 6, 2) := by decide +kernel
theorem dX13_standsIn_33 : decode cX13_standsIn 33 = .ok (.iload 4, 2) := by decide +kernel
theorem dX13_standsIn_35 : decode cX13_standsIn 35 = .ok (.if_icmp .ge 42, 3) := by decide +kernel
theorem dX13_standsIn_38 : decode cX13_standsIn 38 = .ok (.iload 5, 2) := by decide +kernel
theorem dX13_standsIn_40 : decode cX13_standsIn 40 = .ok (.ifCond .eq 37, 3) := by decide +kernel
theorem dX13_standsIn_43 : decode cX13_standsIn 43 = .ok (.aload_n 0, 1) := by decide +kernel
theorem dX13_standsIn_44 : decode cX13_standsIn 44 = .ok (.iload_n 1, 1) := by decide +kernel
theorem dX13_standsIn_45 : decode cX13_standsIn 45 = .ok (.iload_n 2, 1) := by decide +kernel
theorem dX13_standsIn_46 : decode cX13_standsIn 46 = .ok (.iload 6, 2) := by decide +kernel
theorem dX13_standsIn_48 : decode cX13_standsIn 48 = .ok (.iadd, 1) := by decide +kernel
theorem dX13_standsIn_49 : decode cX13_standsIn 49 = .ok (.iload_n 3, 1) := by decide +kernel
theorem dX13_standsIn_50 : decode cX13_standsIn 50 = .ok (.isub, 1) := by decide +kernel
theorem dX13_standsIn_51 : decode cX13_standsIn 51 = .ok (.invokevirtual 206, 3) := by decide +kernel
theorem dX13_standsIn_54 : decode cX13_standsIn 54 = .ok (.aload_n 0, 1) := by decide +kernel
theorem dX13_standsIn_55 : decode cX13_standsIn 55 = .ok (.getfield 154, 3) := by decide +kernel
theorem dX13_standsIn_58 : decode cX13_standsIn 58 = .ok (.iload 6, 2) := by decide +kernel
theorem dX13_standsIn_60 : decode cX13_standsIn 60 = .ok (.iaload, 1) := by decide +kernel
theorem dX13_standsIn_61 : decode cX13_standsIn 61 = .ok (.if_icmp .ne 7, 3) := by decide +kernel
theorem dX13_standsIn_64 : decode cX13_standsIn 64 = .ok (.iconst 1, 1) := by decide +kernel
theorem dX13_standsIn_65 : decode cX13_standsIn 65 = .ok (.goto 4, 3) := by decide +kernel
theorem dX13_standsIn_68 : decode cX13_standsIn 68 = .ok (.iconst 0, 1) := by decide +kernel
theorem dX13_standsIn_69 : decode cX13_standsIn 69 = .ok (.istore 5, 2) := by decide +kernel
theorem dX13_standsIn_71 : decode cX13_standsIn 71 = .ok (.iinc 6 1, 3) := by decide +kernel
theorem dX13_standsIn_74 : decode cX13_standsIn 74 = .ok (.goto (-43), 3) := by decide +kernel
theorem dX13_standsIn_77 : decode cX13_standsIn 77 = .ok (.iload 5, 2) := by decide +kernel
theorem dX13_standsIn_79 : decode cX13_standsIn 79 = .ok (.ireturn, 1) := by decide +kernel
theorem dX13_replacedLine_0 : decode cX13_replacedLine 0 = .ok (.iconst 0, 1) := by decide +kernel
theorem dX13_replacedLine_1 : decode cX13_replacedLine 1 = .ok (.istore 6, 2) := by decide +kernel
theorem dX13_replacedLine_3 : decode cX13_replacedLine 3 = .ok (.iconst 0, 1) := by decide +kernel
theorem dX13_replacedLine_4 : decode cX13_replacedLine 4 = .ok (.istore 7, 2) := by decide +kernel
theorem dX13_replacedLine_6 : decode cX13_replacedLine 6 = .ok (.iconst 0, 1) := by decide +kernel
theorem dX13_replacedLine_7 : decode cX13_replacedLine 7 = .ok (.istore 8, 2) := by decide +kernel
theorem dX13_replacedLine_9 : decode cX13_replacedLine 9 = .ok (.iload 7, 2) := by decide +kernel
theorem dX13_replacedLine_11 : decode cX13_replacedLine 11 = .ok (.aload_n 0, 1) := by decide +kernel
theorem dX13_replacedLine_12 : decode cX13_replacedLine 12 = .ok (.getfield 17, 3) := by decide +kernel
theorem dX13_replacedLine_15 : decode cX13_replacedLine 15 = .ok (.iload_n 1, 1) := by decide +kernel
theorem dX13_replacedLine_16 : decode cX13_replacedLine 16 = .ok (.iaload, 1) := by decide +kernel
theorem dX13_replacedLine_17 : decode cX13_replacedLine 17 = .ok (.if_icmp .ge 97, 3) := by decide +kernel
theorem dX13_replacedLine_20 : decode cX13_replacedLine 20 = .ok (.iload 5, 2) := by decide +kernel
theorem dX13_replacedLine_22 : decode cX13_replacedLine 22 = .ok (.ifCond .ne 8, 3) := by decide +kernel
theorem dX13_replacedLine_25 : decode cX13_replacedLine 25 = .ok (.iload 8, 2) := by decide +kernel
theorem dX13_replacedLine_27 : decode cX13_replacedLine 27 = .ok (.ifCond .ne 64, 3) := by decide +kernel
theorem dX13_replacedLine_30 : decode cX13_replacedLine 30 = .ok (.aload_n 0, 1) := by decide +kernel
theorem dX13_replacedLine_31 : decode cX13_replacedLine 31 = .ok (.iload_n 1, 1) := by decide +kernel
theorem dX13_replacedLine_32 : decode cX13_replacedLine 32 = .ok (.iload 7, 2) := by decide +kernel
theorem dX13_replacedLine_34 : decode cX13_replacedLine 34 = .ok (.iload_n 2, 1) := by decide +kernel
theorem dX13_replacedLine_35 : decode cX13_replacedLine 35 = .ok (.iload_n 3, 1) := by decide +kernel
theorem dX13_replacedLine_36 : decode cX13_replacedLine 36 = .ok (.invokevirtual 895, 3) := by decide +kernel
theorem dX13_replacedLine_39 : decode cX13_replacedLine 39 = .ok (.ifCond .eq 52, 3) := by decide +kernel
theorem dX13_replacedLine_42 : decode cX13_replacedLine 42 = .ok (.iload_n 3, 1) := by decide +kernel
theorem dX13_replacedLine_43 : decode cX13_replacedLine 43 = .ok (.iconst 1, 1) := by decide +kernel
theorem dX13_replacedLine_44 : decode cX13_replacedLine 44 = .ok (.iadd, 1) := by decide +kernel
theorem dX13_replacedLine_45 : decode cX13_replacedLine 45 = .ok (.istore 9, 2) := by decide +kernel
theorem dX13_replacedLine_47 : decode cX13_replacedLine 47 = .ok (.iload 9, 2) := by decide +kernel
theorem dX13_replacedLine_49 : decode cX13_replacedLine 49 = .ok (.iload 4, 2) := by decide +kernel
theorem dX13_replacedLine_51 : decode cX13_replacedLine 51 = .ok (.if_icmp .ge 26, 3) := by decide +kernel
theorem dX13_replacedLine_54 : decode cX13_replacedLine 54 = .ok (.aload_n 0, 1) := by decide +kernel
theorem dX13_replacedLine_55 : decode cX13_replacedLine 55 = .ok (.getfield 83, 3) := by decide +kernel
theorem dX13_replacedLine_58 : decode cX13_replacedLine 58 = .ok (.iload 6, 2) := by decide +kernel
theorem dX13_replacedLine_60 : decode cX13_replacedLine 60 = .ok (.aload_n 0, 1) := by decide +kernel
theorem dX13_replacedLine_61 : decode cX13_replacedLine 61 = .ok (.getfield 154, 3) := by decide +kernel
theorem dX13_replacedLine_64 : decode cX13_replacedLine 64 = .ok (.iload 9, 2) := by decide +kernel
theorem dX13_replacedLine_66 : decode cX13_replacedLine 66 = .ok (.iaload, 1) := by decide +kernel
theorem dX13_replacedLine_67 : decode cX13_replacedLine 67 = .ok (.iastore, 1) := by decide +kernel
theorem dX13_replacedLine_68 : decode cX13_replacedLine 68 = .ok (.iinc 6 1, 3) := by decide +kernel
theorem dX13_replacedLine_71 : decode cX13_replacedLine 71 = .ok (.iinc 9 1, 3) := by decide +kernel
theorem dX13_replacedLine_74 : decode cX13_replacedLine 74 = .ok (.goto (-27), 3) := by decide +kernel
theorem dX13_replacedLine_77 : decode cX13_replacedLine 77 = .ok (.iload 7, 2) := by decide +kernel
theorem dX13_replacedLine_79 : decode cX13_replacedLine 79 = .ok (.iload_n 3, 1) := by decide +kernel
theorem dX13_replacedLine_80 : decode cX13_replacedLine 80 = .ok (.iload_n 2, 1) := by decide +kernel
theorem dX13_replacedLine_81 : decode cX13_replacedLine 81 = .ok (.isub, 1) := by decide +kernel
theorem dX13_replacedLine_82 : decode cX13_replacedLine 82 = .ok (.iadd, 1) := by decide +kernel
theorem dX13_replacedLine_83 : decode cX13_replacedLine 83 = .ok (.istore 7, 2) := by decide +kernel
theorem dX13_replacedLine_85 : decode cX13_replacedLine 85 = .ok (.iconst 1, 1) := by decide +kernel
theorem dX13_replacedLine_86 : decode cX13_replacedLine 86 = .ok (.istore 8, 2) := by decide +kernel
theorem dX13_replacedLine_88 : decode cX13_replacedLine 88 = .ok (.goto (-79), 3) := by decide +kernel
theorem dX13_replacedLine_91 : decode cX13_replacedLine 91 = .ok (.aload_n 0, 1) := by decide +kernel
theorem dX13_replacedLine_92 : decode cX13_replacedLine 92 = .ok (.getfield 83, 3) := by decide +kernel
theorem dX13_replacedLine_95 : decode cX13_replacedLine 95 = .ok (.iload 6, 2) := by decide +kernel
theorem dX13_replacedLine_97 : decode cX13_replacedLine 97 = .ok (.aload_n 0, 1) := by decide +kernel
theorem dX13_replacedLine_98 : decode cX13_replacedLine 98 = .ok (.iload_n 1, 1) := by decide +kernel
theorem dX13_replacedLine_99 : decode cX13_replacedLine 99 = .ok (.iload 7, 2) := by decide +kernel
theorem dX13_replacedLine_101 : decode cX13_replacedLine 101 = .ok (.invokevirtual 206, 3) := by decide +kernel
theorem dX13_replacedLine_104 : decode cX13_replacedLine 104 = .ok (.iastore, 1) := by decide +kernel
theorem dX13_replacedLine_105 : decode cX13_replacedLine 105 = .ok (.iinc 6 1, 3) := by decide +kernel
theorem dX13_replacedLine_108 : decode cX13_replacedLine 108 = .ok (.iinc 7 1, 3) := by decide +kernel
theorem dX13_replacedLine_111 : decode cX13_replacedLine 111 = .ok (.goto (-102), 3) := by decide +kernel
theorem dX13_replacedLine_114 : decode cX13_replacedLine 114 = .ok (.iload 8, 2) := by decide +kernel
theorem dX13_replacedLine_116 : decode cX13_replacedLine 116 = .ok (.ifCond .eq 8, 3) := by decide +kernel
theorem dX13_replacedLine_119 : decode cX13_replacedLine 119 = .ok (.iload 6, 2) := by decide +kernel
theorem dX13_replacedLine_121 : decode cX13_replacedLine 121 = .ok (.goto 4, 3) := by decide +kernel
theorem dX13_replacedLine_124 : decode cX13_replacedLine 124 = .ok (.iconst (-1), 1) := by decide +kernel
theorem dX13_replacedLine_125 : decode cX13_replacedLine 125 = .ok (.ireturn, 1) := by decide +kernel
theorem dX13_substitutes_0 : decode cX13_substitutes 0 = .ok (.aload_n 0, 1) := by decide +kernel
theorem dX13_substitutes_1 : decode cX13_substitutes 1 = .ok (.getfield 861, 3) := by decide +kernel
theorem dX13_substitutes_4 : decode cX13_substitutes 4 = .ok (.iconst 1, 1) := by decide +kernel
theorem dX13_substitutes_5 : decode cX13_substitutes 5 = .ok (.iadd, 1) := by decide +kernel
theorem dX13_substitutes_6 : decode cX13_substitutes 6 = .ok (.istore_n 1, 1) := by decide +kernel
theorem dX13_substitutes_7 : decode cX13_substitutes 7 = .ok (.iload_n 1, 1) := by decide +kernel
theorem dX13_substitutes_8 : decode cX13_substitutes 8 = .ok (.istore_n 2, 1) := by decide +kernel
theorem dX13_substitutes_9 : decode cX13_substitutes 9 = .ok (.aload_n 0, 1) := by decide +kernel
theorem dX13_substitutes_10 : decode cX13_substitutes 10 = .ok (.iload_n 2, 1) := by decide +kernel
theorem dX13_substitutes_11 : decode cX13_substitutes 11 = .ok (.invokevirtual 864, 3) := by decide +kernel
theorem dX13_substitutes_14 : decode cX13_substitutes 14 = .ok (.bipush 47, 2) := by decide +kernel
theorem dX13_substitutes_16 : decode cX13_substitutes 16 = .ok (.if_icmp .eq 18, 3) := by decide +kernel
theorem dX13_substitutes_19 : decode cX13_substitutes 19 = .ok (.aload_n 0, 1) := by decide +kernel
theorem dX13_substitutes_20 : decode cX13_substitutes 20 = .ok (.iload_n 2, 1) := by decide +kernel
theorem dX13_substitutes_21 : decode cX13_substitutes 21 = .ok (.invokevirtual 864, 3) := by decide +kernel
theorem dX13_substitutes_24 : decode cX13_substitutes 24 = .ok (.iconst (-1), 1) := by decide +kernel
theorem dX13_substitutes_25 : decode cX13_substitutes 25 = .ok (.if_icmp .eq 9, 3) := by decide +kernel
theorem dX13_substitutes_28 : decode cX13_substitutes 28 = .ok (.iinc 2 1, 3) := by decide +kernel
theorem dX13_substitutes_31 : decode cX13_substitutes 31 = .ok (.goto (-22), 3) := by decide +kernel
theorem dX13_substitutes_34 : decode cX13_substitutes 34 = .ok (.iload_n 2, 1) := by decide +kernel
theorem dX13_substitutes_35 : decode cX13_substitutes 35 = .ok (.iconst 1, 1) := by decide +kernel
theorem dX13_substitutes_36 : decode cX13_substitutes 36 = .ok (.iadd, 1) := by decide +kernel
theorem dX13_substitutes_37 : decode cX13_substitutes 37 = .ok (.istore_n 3, 1) := by decide +kernel
theorem dX13_substitutes_38 : decode cX13_substitutes 38 = .ok (.aload_n 0, 1) := by decide +kernel
theorem dX13_substitutes_39 : decode cX13_substitutes 39 = .ok (.iload_n 3, 1) := by decide +kernel
theorem dX13_substitutes_40 : decode cX13_substitutes 40 = .ok (.invokevirtual 864, 3) := by decide +kernel
theorem dX13_substitutes_43 : decode cX13_substitutes 43 = .ok (.bipush 47, 2) := by decide +kernel
theorem dX13_substitutes_45 : decode cX13_substitutes 45 = .ok (.if_icmp .eq 18, 3) := by decide +kernel
theorem dX13_substitutes_48 : decode cX13_substitutes 48 = .ok (.aload_n 0, 1) := by decide +kernel
theorem dX13_substitutes_49 : decode cX13_substitutes 49 = .ok (.iload_n 3, 1) := by decide +kernel
theorem dX13_substitutes_50 : decode cX13_substitutes 50 = .ok (.invokevirtual 864, 3) := by decide +kernel
theorem dX13_substitutes_53 : decode cX13_substitutes 53 = .ok (.iconst (-1), 1) := by decide +kernel
theorem dX13_substitutes_54 : decode cX13_substitutes 54 = .ok (.if_icmp .eq 9, 3) := by decide +kernel
theorem dX13_substitutes_57 : decode cX13_substitutes 57 = .ok (.iinc 3 1, 3) := by decide +kernel
theorem dX13_substitutes_60 : decode cX13_substitutes 60 = .ok (.goto (-22), 3) := by decide +kernel
theorem dX13_substitutes_63 : decode cX13_substitutes 63 = .ok (.aload_n 0, 1) := by decide +kernel
theorem dX13_substitutes_64 : decode cX13_substitutes 64 = .ok (.iload_n 3, 1) := by decide +kernel
theorem dX13_substitutes_65 : decode cX13_substitutes 65 = .ok (.iconst 1, 1) := by decide +kernel
theorem dX13_substitutes_66 : decode cX13_substitutes 66 = .ok (.iadd, 1) := by decide +kernel
theorem dX13_substitutes_67 : decode cX13_substitutes 67 = .ok (.invokevirtual 864, 3) := by decide +kernel
theorem dX13_substitutes_70 : decode cX13_substitutes 70 = .ok (.bipush 103, 2) := by decide +kernel
theorem dX13_substitutes_72 : decode cX13_substitutes 72 = .ok (.if_icmp .ne 7, 3) := by decide +kernel
theorem dX13_substitutes_75 : decode cX13_substitutes 75 = .ok (.iconst 1, 1) := by decide +kernel
theorem dX13_substitutes_76 : decode cX13_substitutes 76 = .ok (.goto 4, 3) := by decide +kernel
theorem dX13_substitutes_79 : decode cX13_substitutes 79 = .ok (.iconst 0, 1) := by decide +kernel
theorem dX13_substitutes_80 : decode cX13_substitutes 80 = .ok (.istore 4, 2) := by decide +kernel
theorem dX13_substitutes_82 : decode cX13_substitutes 82 = .ok (.aload_n 0, 1) := by decide +kernel
theorem dX13_substitutes_83 : decode cX13_substitutes 83 = .ok (.aload_n 0, 1) := by decide +kernel
theorem dX13_substitutes_84 : decode cX13_substitutes 84 = .ok (.getfield 861, 3) := by decide +kernel
theorem dX13_substitutes_87 : decode cX13_substitutes 87 = .ok (.invokevirtual 864, 3) := by decide +kernel
theorem dX13_substitutes_90 : decode cX13_substitutes 90 = .ok (.bipush 47, 2) := by decide +kernel
theorem dX13_substitutes_92 : decode cX13_substitutes 92 = .ok (.if_icmp .ne 47, 3) := by decide +kernel
theorem dX13_substitutes_95 : decode cX13_substitutes 95 = .ok (.aload_n 0, 1) := by decide +kernel
theorem dX13_substitutes_96 : decode cX13_substitutes 96 = .ok (.iload_n 2, 1) := by decide +kernel
theorem dX13_substitutes_97 : decode cX13_substitutes 97 = .ok (.invokevirtual 864, 3) := by decide +kernel
theorem dX13_substitutes_100 : decode cX13_substitutes 100 = .ok (.bipush 47, 2) := by decide +kernel
theorem dX13_substitutes_102 : decode cX13_substitutes 102 = .ok (.if_icmp .ne 37, 3) := by decide +kernel
theorem dX13_substitutes_105 : decode cX13_substitutes 105 = .ok (.aload_n 0, 1) := by decide +kernel
theorem dX13_substitutes_106 : decode cX13_substitutes 106 = .ok (.iload_n 3, 1) := by decide +kernel
theorem dX13_substitutes_107 : decode cX13_substitutes 107 = .ok (.invokevirtual 864, 3) := by decide +kernel
theorem dX13_substitutes_110 : decode cX13_substitutes 110 = .ok (.bipush 47, 2) := by decide +kernel
theorem dX13_substitutes_112 : decode cX13_substitutes 112 = .ok (.if_icmp .ne 27, 3) := by decide +kernel
theorem dX13_substitutes_115 : decode cX13_substitutes 115 = .ok (.iload_n 2, 1) := by decide +kernel
theorem dX13_substitutes_116 : decode cX13_substitutes 116 = .ok (.iload_n 1, 1) := by decide +kernel
theorem dX13_substitutes_117 : decode cX13_substitutes 117 = .ok (.if_icmp .eq 22, 3) := by decide +kernel
theorem dX13_substitutes_120 : decode cX13_substitutes 120 = .ok (.iload_n 3, 1) := by decide +kernel
theorem dX13_substitutes_121 : decode cX13_substitutes 121 = .ok (.iload 4, 2) := by decide +kernel
theorem dX13_substitutes_123 : decode cX13_substitutes 123 = .ok (.ifCond .eq 7, 3) := by decide +kernel
theorem dX13_substitutes_126 : decode cX13_substitutes 126 = .ok (.iconst 2, 1) := by decide +kernel
theorem dX13_substitutes_127 : decode cX13_substitutes 127 = .ok (.goto 4, 3) := by decide +kernel
theorem dX13_substitutes_130 : decode cX13_substitutes 130 = .ok (.iconst 1, 1) := by decide +kernel
theorem dX13_substitutes_131 : decode cX13_substitutes 131 = .ok (.iadd, 1) := by decide +kernel
theorem dX13_substitutes_132 : decode cX13_substitutes 132 = .ok (.aload_n 0, 1) := by decide +kernel
theorem dX13_substitutes_133 : decode cX13_substitutes 133 = .ok (.getfield 858, 3) := by decide +kernel
theorem dX13_substitutes_136 : decode cX13_substitutes 136 = .ok (.if_icmp .eq 5, 3) := by decide +kernel
theorem dX13_substitutes_139 : decode cX13_substitutes 139 = .ok (.iconst 0, 1) := by decide +kernel
theorem dX13_substitutes_140 : decode cX13_substitutes 140 = .ok (.ireturn, 1) := by decide +kernel
theorem dX13_substitutes_141 : decode cX13_substitutes 141 = .ok (.iconst (-1), 1) := by decide +kernel
theorem dX13_substitutes_142 : decode cX13_substitutes 142 = .ok (.istore 5, 2) := by decide +kernel
theorem dX13_substitutes_144 : decode cX13_substitutes 144 = .ok (.iconst 1, 1) := by decide +kernel
theorem dX13_substitutes_145 : decode cX13_substitutes 145 = .ok (.istore 6, 2) := by decide +kernel
theorem dX13_substitutes_147 : decode cX13_substitutes 147 = .ok (.aload_n 0, 1) := by decide +kernel
theorem dX13_substitutes_148 : decode cX13_substitutes 148 = .ok (.getfield 870, 3) := by decide +kernel
theorem dX13_substitutes_151 : decode cX13_substitutes 151 = .ok (.istore 7, 2) := by decide +kernel
theorem dX13_substitutes_153 : decode cX13_substitutes 153 = .ok (.iload 7, 2) := by decide +kernel
theorem dX13_substitutes_155 : decode cX13_substitutes 155 = .ok (.aload_n 0, 1) := by decide +kernel
theorem dX13_substitutes_156 : decode cX13_substitutes 156 = .ok (.getfield 873, 3) := by decide +kernel
theorem dX13_substitutes_159 : decode cX13_substitutes 159 = .ok (.if_icmp .gt 56, 3) := by decide +kernel
theorem dX13_substitutes_162 : decode cX13_substitutes 162 = .ok (.aload_n 0, 1) := by decide +kernel
theorem dX13_substitutes_163 : decode cX13_substitutes 163 = .ok (.iload 7, 2) := by decide +kernel
theorem dX13_substitutes_165 : decode cX13_substitutes 165 = .ok (.iload_n 1, 1) := by decide +kernel
theorem dX13_substitutes_166 : decode cX13_substitutes 166 = .ok (.iload_n 2, 1) := by decide +kernel
theorem dX13_substitutes_167 : decode cX13_substitutes 167 = .ok (.iload_n 3, 1) := by decide +kernel
theorem dX13_substitutes_168 : decode cX13_substitutes 168 = .ok (.iload 4, 2) := by decide +kernel
theorem dX13_substitutes_170 : decode cX13_substitutes 170 = .ok (.invokevirtual 898, 3) := by decide +kernel
theorem dX13_substitutes_173 : decode cX13_substitutes 173 = .ok (.istore 8, 2) := by decide +kernel
theorem dX13_substitutes_175 : decode cX13_substitutes 175 = .ok (.iload 8, 2) := by decide +kernel
theorem dX13_substitutes_177 : decode cX13_substitutes 177 = .ok (.iconst (-1), 1) := by decide +kernel
theorem dX13_substitutes_178 : decode cX13_substitutes 178 = .ok (.if_icmp .ne 8, 3) := by decide +kernel
theorem dX13_substitutes_181 : decode cX13_substitutes 181 = .ok (.iload 5, 2) := by decide +kernel
theorem dX13_substitutes_183 : decode cX13_substitutes 183 = .ok (.goto 5, 3) := by decide +kernel
theorem dX13_substitutes_186 : decode cX13_substitutes 186 = .ok (.iload 7, 2) := by decide +kernel
theorem dX13_substitutes_188 : decode cX13_substitutes 188 = .ok (.istore 5, 2) := by decide +kernel
theorem dX13_substitutes_190 : decode cX13_substitutes 190 = .ok (.iload 6, 2) := by decide +kernel
theorem dX13_substitutes_192 : decode cX13_substitutes 192 = .ok (.ifCond .eq 14, 3) := by decide +kernel
theorem dX13_substitutes_195 : decode cX13_substitutes 195 = .ok (.iload 8, 2) := by decide +kernel
theorem dX13_substitutes_197 : decode cX13_substitutes 197 = .ok (.bipush 60, 2) := by decide +kernel
theorem dX13_substitutes_199 : decode cX13_substitutes 199 = .ok (.if_icmp .gt 7, 3) := by decide +kernel
theorem dX13_substitutes_202 : decode cX13_substitutes 202 = .ok (.iconst 1, 1) := by decide +kernel
theorem dX13_substitutes_203 : decode cX13_substitutes 203 = .ok (.goto 4, 3) := by decide +kernel
theorem dX13_substitutes_206 : decode cX13_substitutes 206 = .ok (.iconst 0, 1) := by decide +kernel
theorem dX13_substitutes_207 : decode cX13_substitutes 207 = .ok (.istore 6, 2) := by decide +kernel
theorem dX13_substitutes_209 : decode cX13_substitutes 209 = .ok (.iinc 7 1, 3) := by decide +kernel
theorem dX13_substitutes_212 : decode cX13_substitutes 212 = .ok (.goto (-59), 3) := by decide +kernel
theorem dX13_substitutes_215 : decode cX13_substitutes 215 = .ok (.aload_n 0, 1) := by decide +kernel
theorem dX13_substitutes_216 : decode cX13_substitutes 216 = .ok (.getfield 870, 3) := by decide +kernel
theorem dX13_substitutes_219 : decode cX13_substitutes 219 = .ok (.istore 7, 2) := by decide +kernel
theorem dX13_substitutes_221 : decode cX13_substitutes 221 = .ok (.iload 7, 2) := by decide +kernel
theorem dX13_substitutes_223 : decode cX13_substitutes 223 = .ok (.aload_n 0, 1) := by decide +kernel
theorem dX13_substitutes_224 : decode cX13_substitutes 224 = .ok (.getfield 873, 3) := by decide +kernel
theorem dX13_substitutes_227 : decode cX13_substitutes 227 = .ok (.if_icmp .gt 88, 3) := by decide +kernel
theorem dX13_substitutes_230 : decode cX13_substitutes 230 = .ok (.iload 6, 2) := by decide +kernel
theorem dX13_substitutes_232 : decode cX13_substitutes 232 = .ok (.ifCond .eq 83, 3) := by decide +kernel
theorem dX13_substitutes_235 : decode cX13_substitutes 235 = .ok (.aload_n 0, 1) := by decide +kernel
theorem dX13_substitutes_236 : decode cX13_substitutes 236 = .ok (.iload 7, 2) := by decide +kernel
theorem dX13_substitutes_238 : decode cX13_substitutes 238 = .ok (.iload_n 1, 1) := by decide +kernel
theorem dX13_substitutes_239 : decode cX13_substitutes 239 = .ok (.iload_n 2, 1) := by decide +kernel
theorem dX13_substitutes_240 : decode cX13_substitutes 240 = .ok (.iload_n 3, 1) := by decide +kernel
theorem dX13_substitutes_241 : decode cX13_substitutes 241 = .ok (.iload 4, 2) := by decide +kernel
theorem dX13_substitutes_243 : decode cX13_substitutes 243 = .ok (.invokevirtual 898, 3) := by decide +kernel
theorem dX13_substitutes_246 : decode cX13_substitutes 246 = .ok (.istore 8, 2) := by decide +kernel
theorem dX13_substitutes_248 : decode cX13_substitutes 248 = .ok (.aload_n 0, 1) := by decide +kernel
theorem dX13_substitutes_249 : decode cX13_substitutes 249 = .ok (.getfield 17, 3) := by decide +kernel
theorem dX13_substitutes_252 : decode cX13_substitutes 252 = .ok (.iload 7, 2) := by decide +kernel
theorem dX13_substitutes_254 : decode cX13_substitutes 254 = .ok (.iload 8, 2) := by decide +kernel
theorem dX13_substitutes_256 : decode cX13_substitutes 256 = .ok (.iconst (-1), 1) := by decide +kernel
theorem dX13_substitutes_257 : decode cX13_substitutes 257 = .ok (.if_icmp .ne 13, 3) := by decide +kernel
theorem dX13_substitutes_260 : decode cX13_substitutes 260 = .ok (.aload_n 0, 1) := by decide +kernel
theorem dX13_substitutes_261 : decode cX13_substitutes 261 = .ok (.getfield 17, 3) := by decide +kernel
theorem dX13_substitutes_264 : decode cX13_substitutes 264 = .ok (.iload 7, 2) := by decide +kernel
theorem dX13_substitutes_266 : decode cX13_substitutes 266 = .ok (.iaload, 1) := by decide +kernel
theorem dX13_substitutes_267 : decode cX13_substitutes 267 = .ok (.goto 5, 3) := by decide +kernel
theorem dX13_substitutes_270 : decode cX13_substitutes 270 = .ok (.iload 8, 2) := by decide +kernel
theorem dX13_substitutes_272 : decode cX13_substitutes 272 = .ok (.iastore, 1) := by decide +kernel
theorem dX13_substitutes_273 : decode cX13_substitutes 273 = .ok (.iconst 0, 1) := by decide +kernel
theorem dX13_substitutes_274 : decode cX13_substitutes 274 = .ok (.istore 9, 2) := by decide +kernel
theorem dX13_substitutes_276 : decode cX13_substitutes 276 = .ok (.iload 9, 2) := by decide +kernel
theorem dX13_substitutes_278 : decode cX13_substitutes 278 = .ok (.iload 8, 2) := by decide +kernel
theorem dX13_substitutes_280 : decode cX13_substitutes 280 = .ok (.if_icmp .ge 29, 3) := by decide +kernel
theorem dX13_substitutes_283 : decode cX13_substitutes 283 = .ok (.aload_n 0, 1) := by decide +kernel
theorem dX13_substitutes_284 : decode cX13_substitutes 284 = .ok (.getfield 20, 3) := by decide +kernel
theorem dX13_substitutes_287 : decode cX13_substitutes 287 = .ok (.bipush 60, 2) := by decide +kernel
theorem dX13_substitutes_289 : decode cX13_substitutes 289 = .ok (.iload 7, 2) := by decide +kernel
theorem dX13_substitutes_291 : decode cX13_substitutes 291 = .ok (.imul, 1) := by decide +kernel
theorem dX13_substitutes_292 : decode cX13_substitutes 292 = .ok (.iload 9, 2) := by decide +kernel
theorem dX13_substitutes_294 : decode cX13_substitutes 294 = .ok (.iadd, 1) := by decide +kernel
theorem dX13_substitutes_295 : decode cX13_substitutes 295 = .ok (.aload_n 0, 1) := by decide +kernel
theorem dX13_substitutes_296 : decode cX13_substitutes 296 = .ok (.getfield 83, 3) := by decide +kernel
theorem dX13_substitutes_299 : decode cX13_substitutes 299 = .ok (.iload 9, 2) := by decide +kernel
theorem dX13_substitutes_301 : decode cX13_substitutes 301 = .ok (.iaload, 1) := by decide +kernel
theorem dX13_substitutes_302 : decode cX13_substitutes 302 = .ok (.iastore, 1) := by decide +kernel
theorem dX13_substitutes_303 : decode cX13_substitutes 303 = .ok (.iinc 9 1, 3) := by decide +kernel
theorem dX13_substitutes_306 : decode cX13_substitutes 306 = .ok (.goto (-30), 3) := by decide +kernel
theorem dX13_substitutes_309 : decode cX13_substitutes 309 = .ok (.iinc 7 1, 3) := by decide +kernel
theorem dX13_substitutes_312 : decode cX13_substitutes 312 = .ok (.goto (-91), 3) := by decide +kernel
theorem dX13_substitutes_315 : decode cX13_substitutes 315 = .ok (.iload 5, 2) := by decide +kernel
theorem dX13_substitutes_317 : decode cX13_substitutes 317 = .ok (.iconst (-1), 1) := by decide +kernel
theorem dX13_substitutes_318 : decode cX13_substitutes 318 = .ok (.if_icmp .eq 14, 3) := by decide +kernel
theorem dX13_substitutes_321 : decode cX13_substitutes 321 = .ok (.iload 6, 2) := by decide +kernel
theorem dX13_substitutes_323 : decode cX13_substitutes 323 = .ok (.ifCond .eq 9, 3) := by decide +kernel
theorem dX13_substitutes_326 : decode cX13_substitutes 326 = .ok (.aload_n 0, 1) := by decide +kernel
theorem dX13_substitutes_327 : decode cX13_substitutes 327 = .ok (.iload 5, 2) := by decide +kernel
theorem dX13_substitutes_329 : decode cX13_substitutes 329 = .ok (.invokevirtual 507, 3) := by decide +kernel
theorem dX13_substitutes_332 : decode cX13_substitutes 332 = .ok (.iload 5, 2) := by decide +kernel
theorem dX13_substitutes_334 : decode cX13_substitutes 334 = .ok (.iconst (-1), 1) := by decide +kernel
theorem dX13_substitutes_335 : decode cX13_substitutes 335 = .ok (.if_icmp .eq 12, 3) := by decide +kernel
theorem dX13_substitutes_338 : decode cX13_substitutes 338 = .ok (.iload 6, 2) := by decide +kernel
theorem dX13_substitutes_340 : decode cX13_substitutes 340 = .ok (.ifCond .eq 7, 3) := by decide +kernel
theorem dX13_substitutes_343 : decode cX13_substitutes 343 = .ok (.iconst 1, 1) := by decide +kernel
theorem dX13_substitutes_344 : decode cX13_substitutes 344 = .ok (.goto 4, 3) := by decide +kernel
theorem dX13_substitutes_347 : decode cX13_substitutes 347 = .ok (.iconst 0, 1) := by decide +kernel
theorem dX13_substitutes_348 : decode cX13_substitutes 348 = .ok (.ireturn, 1) := by decide +kernel
theorem dX13_beginsLines_0 : decode cX13_beginsLines 0 = .ok (.aload_n 0, 1) := by decide +kernel
theorem dX13_beginsLines_1 : decode cX13_beginsLines 1 = .ok (.invokevirtual 880, 3) := by decide +kernel
theorem dX13_beginsLines_4 : decode cX13_beginsLines 4 = .ok (.ifCond .ne 12, 3) := by decide +kernel
theorem dX13_beginsLines_7 : decode cX13_beginsLines 7 = .ok (.aload_n 0, 1) := by decide +kernel
theorem dX13_beginsLines_8 : decode cX13_beginsLines 8 = .ok (.invokevirtual 818, 3) := by decide +kernel
theorem dX13_beginsLines_11 : decode cX13_beginsLines 11 = .ok (.bipush 20, 2) := by decide +kernel
theorem dX13_beginsLines_13 : decode cX13_beginsLines 13 = .ok (.if_icmp .ne 5, 3) := by decide +kernel
theorem dX13_beginsLines_16 : decode cX13_beginsLines 16 = .ok (.iconst 0, 1) := by decide +kernel
theorem dX13_beginsLines_17 : decode cX13_beginsLines 17 = .ok (.ireturn, 1) := by decide +kernel
theorem dX13_beginsLines_18 : decode cX13_beginsLines 18 = .ok (.aload_n 0, 1) := by decide +kernel
theorem dX13_beginsLines_19 : decode cX13_beginsLines 19 = .ok (.iconst 0, 1) := by decide +kernel
theorem dX13_beginsLines_20 : decode cX13_beginsLines 20 = .ok (.putfield 244, 3) := by decide +kernel
theorem dX13_beginsLines_23 : decode cX13_beginsLines 23 = .ok (.aload_n 0, 1) := by decide +kernel
theorem dX13_beginsLines_24 : decode cX13_beginsLines 24 = .ok (.iconst 3, 1) := by decide +kernel
theorem dX13_beginsLines_25 : decode cX13_beginsLines 25 = .ok (.iconst 1, 1) := by decide +kernel
theorem dX13_beginsLines_26 : decode cX13_beginsLines 26 = .ok (.invokevirtual 699, 3) := by decide +kernel
theorem dX13_beginsLines_29 : decode cX13_beginsLines 29 = .ok (.aload_n 0, 1) := by decide +kernel
theorem dX13_beginsLines_30 : decode cX13_beginsLines 30 = .ok (.getfield 861, 3) := by decide +kernel
theorem dX13_beginsLines_33 : decode cX13_beginsLines 33 = .ok (.istore_n 1, 1) := by decide +kernel
theorem dX13_beginsLines_34 : decode cX13_beginsLines 34 = .ok (.iload_n 1, 1) := by decide +kernel
theorem dX13_beginsLines_35 : decode cX13_beginsLines 35 = .ok (.aload_n 0, 1) := by decide +kernel
theorem dX13_beginsLines_36 : decode cX13_beginsLines 36 = .ok (.getfield 858, 3) := by decide +kernel
theorem dX13_beginsLines_39 : decode cX13_beginsLines 39 = .ok (.if_icmp .ge 19, 3) := by decide +kernel
theorem dX13_beginsLines_42 : decode cX13_beginsLines 42 = .ok (.aload_n 0, 1) := by decide +kernel
theorem dX13_beginsLines_43 : decode cX13_beginsLines 43 = .ok (.aload_n 0, 1) := by decide +kernel
theorem dX13_beginsLines_44 : decode cX13_beginsLines 44 = .ok (.getfield 154, 3) := by decide +kernel
theorem dX13_beginsLines_47 : decode cX13_beginsLines 47 = .ok (.iload_n 1, 1) := by decide +kernel
theorem dX13_beginsLines_48 : decode cX13_beginsLines 48 = .ok (.iaload, 1) := by decide +kernel
theorem dX13_beginsLines_49 : decode cX13_beginsLines 49 = .ok (.invokevirtual 702, 3) := by decide +kernel
theorem dX13_beginsLines_52 : decode cX13_beginsLines 52 = .ok (.iinc 1 1, 3) := by decide +kernel
theorem dX13_beginsLines_55 : decode cX13_beginsLines 55 = .ok (.goto (-21), 3) := by decide +kernel
theorem dX13_beginsLines_58 : decode cX13_beginsLines 58 = .ok (.aload_n 0, 1) := by decide +kernel
theorem dX13_beginsLines_59 : decode cX13_beginsLines 59 = .ok (.getfield 870, 3) := by decide +kernel
theorem dX13_beginsLines_62 : decode cX13_beginsLines 62 = .ok (.istore_n 1, 1) := by decide +kernel
theorem dX13_beginsLines_63 : decode cX13_beginsLines 63 = .ok (.iload_n 1, 1) := by decide +kernel
theorem dX13_beginsLines_64 : decode cX13_beginsLines 64 = .ok (.aload_n 0, 1) := by decide +kernel
theorem dX13_beginsLines_65 : decode cX13_beginsLines 65 = .ok (.getfield 873, 3) := by decide +kernel
theorem dX13_beginsLines_68 : decode cX13_beginsLines 68 = .ok (.if_icmp .gt 31, 3) := by decide +kernel
theorem dX13_beginsLines_71 : decode cX13_beginsLines 71 = .ok (.aload_n 0, 1) := by decide +kernel
theorem dX13_beginsLines_72 : decode cX13_beginsLines 72 = .ok (.getfield 148, 3) := by decide +kernel
theorem dX13_beginsLines_75 : decode cX13_beginsLines 75 = .ok (.bipush 41, 2) := by decide +kernel
theorem dX13_beginsLines_77 : decode cX13_beginsLines 77 = .ok (.aload_n 0, 1) := by decide +kernel
theorem dX13_beginsLines_78 : decode cX13_beginsLines 78 = .ok (.getfield 672, 3) := by decide +kernel
theorem dX13_beginsLines_81 : decode cX13_beginsLines 81 = .ok (.iconst 1, 1) := by decide +kernel
theorem dX13_beginsLines_82 : decode cX13_beginsLines 82 = .ok (.isub, 1) := by decide +kernel
theorem dX13_beginsLines_83 : decode cX13_beginsLines 83 = .ok (.imul, 1) := by decide +kernel
theorem dX13_beginsLines_84 : decode cX13_beginsLines 84 = .ok (.iload_n 1, 1) := by decide +kernel
theorem dX13_beginsLines_85 : decode cX13_beginsLines 85 = .ok (.iadd, 1) := by decide +kernel
theorem dX13_beginsLines_86 : decode cX13_beginsLines 86 = .ok (.aload_n 0, 1) := by decide +kernel
theorem dX13_beginsLines_87 : decode cX13_beginsLines 87 = .ok (.getfield 870, 3) := by decide +kernel
theorem dX13_beginsLines_90 : decode cX13_beginsLines 90 = .ok (.isub, 1) := by decide +kernel
theorem dX13_beginsLines_91 : decode cX13_beginsLines 91 = .ok (.iload_n 1, 1) := by decide +kernel
theorem dX13_beginsLines_92 : decode cX13_beginsLines 92 = .ok (.iastore, 1) := by decide +kernel
theorem dX13_beginsLines_93 : decode cX13_beginsLines 93 = .ok (.iinc 1 1, 3) := by decide +kernel
theorem dX13_beginsLines_96 : decode cX13_beginsLines 96 = .ok (.goto (-33), 3) := by decide +kernel
theorem dX13_beginsLines_99 : decode cX13_beginsLines 99 = .ok (.iconst 1, 1) := by decide +kernel
theorem dX13_beginsLines_100 : decode cX13_beginsLines 100 = .ok (.ireturn, 1) := by decide +kernel
theorem dX13_beginsMarked_0 : decode cX13_beginsMarked 0 = .ok (.aload_n 0, 1) := by decide +kernel
theorem dX13_beginsMarked_1 : decode cX13_beginsMarked 1 = .ok (.getfield 861, 3) := by decide +kernel
theorem dX13_beginsMarked_4 : decode cX13_beginsMarked 4 = .ok (.iconst 1, 1) := by decide +kernel
theorem dX13_beginsMarked_5 : decode cX13_beginsMarked 5 = .ok (.iadd, 1) := by decide +kernel
theorem dX13_beginsMarked_6 : decode cX13_beginsMarked 6 = .ok (.istore_n 1, 1) := by decide +kernel
theorem dX13_beginsMarked_7 : decode cX13_beginsMarked 7 = .ok (.iload_n 1, 1) := by decide +kernel
theorem dX13_beginsMarked_8 : decode cX13_beginsMarked 8 = .ok (.istore_n 2, 1) := by decide +kernel
theorem dX13_beginsMarked_9 : decode cX13_beginsMarked 9 = .ok (.aload_n 0, 1) := by decide +kernel
theorem dX13_beginsMarked_10 : decode cX13_beginsMarked 10 = .ok (.iload_n 2, 1) := by decide +kernel
theorem dX13_beginsMarked_11 : decode cX13_beginsMarked 11 = .ok (.invokevirtual 864, 3) := by decide +kernel
theorem dX13_beginsMarked_14 : decode cX13_beginsMarked 14 = .ok (.bipush 47, 2) := by decide +kernel
theorem dX13_beginsMarked_16 : decode cX13_beginsMarked 16 = .ok (.if_icmp .eq 18, 3) := by decide +kernel
theorem dX13_beginsMarked_19 : decode cX13_beginsMarked 19 = .ok (.aload_n 0, 1) := by decide +kernel
theorem dX13_beginsMarked_20 : decode cX13_beginsMarked 20 = .ok (.iload_n 2, 1) := by decide +kernel
theorem dX13_beginsMarked_21 : decode cX13_beginsMarked 21 = .ok (.invokevirtual 864, 3) := by decide +kernel
theorem dX13_beginsMarked_24 : decode cX13_beginsMarked 24 = .ok (.iconst (-1), 1) := by decide +kernel
theorem dX13_beginsMarked_25 : decode cX13_beginsMarked 25 = .ok (.if_icmp .eq 9, 3) := by decide +kernel
theorem dX13_beginsMarked_28 : decode cX13_beginsMarked 28 = .ok (.iinc 2 1, 3) := by decide +kernel
theorem dX13_beginsMarked_31 : decode cX13_beginsMarked 31 = .ok (.goto (-22), 3) := by decide +kernel
theorem dX13_beginsMarked_34 : decode cX13_beginsMarked 34 = .ok (.aload_n 0, 1) := by decide +kernel
theorem dX13_beginsMarked_35 : decode cX13_beginsMarked 35 = .ok (.aload_n 0, 1) := by decide +kernel
theorem dX13_beginsMarked_36 : decode cX13_beginsMarked 36 = .ok (.getfield 861, 3) := by decide +kernel
theorem dX13_beginsMarked_39 : decode cX13_beginsMarked 39 = .ok (.invokevirtual 864, 3) := by decide +kernel
theorem dX13_beginsMarked_42 : decode cX13_beginsMarked 42 = .ok (.bipush 47, 2) := by decide +kernel
theorem dX13_beginsMarked_44 : decode cX13_beginsMarked 44 = .ok (.if_icmp .ne 23, 3) := by decide +kernel
theorem dX13_beginsMarked_47 : decode cX13_beginsMarked 47 = .ok (.aload_n 0, 1) := by decide +kernel
theorem dX13_beginsMarked_48 : decode cX13_beginsMarked 48 = .ok (.iload_n 2, 1) := by decide +kernel
theorem dX13_beginsMarked_49 : decode cX13_beginsMarked 49 = .ok (.invokevirtual 864, 3) := by decide +kernel
theorem dX13_beginsMarked_52 : decode cX13_beginsMarked 52 = .ok (.bipush 47, 2) := by decide +kernel
theorem dX13_beginsMarked_54 : decode cX13_beginsMarked 54 = .ok (.if_icmp .ne 13, 3) := by decide +kernel
theorem dX13_beginsMarked_57 : decode cX13_beginsMarked 57 = .ok (.aload_n 0, 1) := by decide +kernel
theorem dX13_beginsMarked_58 : decode cX13_beginsMarked 58 = .ok (.iload_n 2, 1) := by decide +kernel
theorem dX13_beginsMarked_59 : decode cX13_beginsMarked 59 = .ok (.iconst 1, 1) := by decide +kernel
theorem dX13_beginsMarked_60 : decode cX13_beginsMarked 60 = .ok (.iadd, 1) := by decide +kernel
theorem dX13_beginsMarked_61 : decode cX13_beginsMarked 61 = .ok (.invokevirtual 902, 3) := by decide +kernel
theorem dX13_beginsMarked_64 : decode cX13_beginsMarked 64 = .ok (.ifCond .ne 5, 3) := by decide +kernel
theorem dX13_beginsMarked_67 : decode cX13_beginsMarked 67 = .ok (.iconst 0, 1) := by decide +kernel
theorem dX13_beginsMarked_68 : decode cX13_beginsMarked 68 = .ok (.ireturn, 1) := by decide +kernel
theorem dX13_beginsMarked_69 : decode cX13_beginsMarked 69 = .ok (.iconst 0, 1) := by decide +kernel
theorem dX13_beginsMarked_70 : decode cX13_beginsMarked 70 = .ok (.istore_n 3, 1) := by decide +kernel
theorem dX13_beginsMarked_71 : decode cX13_beginsMarked 71 = .ok (.aload_n 0, 1) := by decide +kernel
theorem dX13_beginsMarked_72 : decode cX13_beginsMarked 72 = .ok (.getfield 867, 3) := by decide +kernel
theorem dX13_beginsMarked_75 : decode cX13_beginsMarked 75 = .ok (.ifCond .eq 10, 3) := by decide +kernel
theorem dX13_beginsMarked_78 : decode cX13_beginsMarked 78 = .ok (.aload_n 0, 1) := by decide +kernel
theorem dX13_beginsMarked_79 : decode cX13_beginsMarked 79 = .ok (.getfield 870, 3) := by decide +kernel
theorem dX13_beginsMarked_82 : decode cX13_beginsMarked 82 = .ok (.goto 4, 3) := by decide +kernel
theorem dX13_beginsMarked_85 : decode cX13_beginsMarked 85 = .ok (.iconst 0, 1) := by decide +kernel
theorem dX13_beginsMarked_86 : decode cX13_beginsMarked 86 = .ok (.istore 4, 2) := by decide +kernel
theorem dX13_beginsMarked_88 : decode cX13_beginsMarked 88 = .ok (.aload_n 0, 1) := by decide +kernel
theorem dX13_beginsMarked_89 : decode cX13_beginsMarked 89 = .ok (.getfield 867, 3) := by decide +kernel
theorem dX13_beginsMarked_92 : decode cX13_beginsMarked 92 = .ok (.ifCond .eq 10, 3) := by decide +kernel
theorem dX13_beginsMarked_95 : decode cX13_beginsMarked 95 = .ok (.aload_n 0, 1) := by decide +kernel
theorem dX13_beginsMarked_96 : decode cX13_beginsMarked 96 = .ok (.getfield 873, 3) := by decide +kernel
theorem dX13_beginsMarked_99 : decode cX13_beginsMarked 99 = .ok (.goto 9, 3) := by decide +kernel
theorem dX13_beginsMarked_102 : decode cX13_beginsMarked 102 = .ok (.aload_n 0, 1) := by decide +kernel
theorem dX13_beginsMarked_103 : decode cX13_beginsMarked 103 = .ok (.getfield 13, 3) := by decide +kernel
theorem dX13_beginsMarked_106 : decode cX13_beginsMarked 106 = .ok (.iconst 1, 1) := by decide +kernel
theorem dX13_beginsMarked_107 : decode cX13_beginsMarked 107 = .ok (.isub, 1) := by decide +kernel
theorem dX13_beginsMarked_108 : decode cX13_beginsMarked 108 = .ok (.istore 5, 2) := by decide +kernel
theorem dX13_beginsMarked_110 : decode cX13_beginsMarked 110 = .ok (.aload_n 0, 1) := by decide +kernel
theorem dX13_beginsMarked_111 : decode cX13_beginsMarked 111 = .ok (.iconst 4, 1) := by decide +kernel
theorem dX13_beginsMarked_112 : decode cX13_beginsMarked 112 = .ok (.iconst 1, 1) := by decide +kernel
theorem dX13_beginsMarked_113 : decode cX13_beginsMarked 113 = .ok (.invokevirtual 699, 3) := by decide +kernel
theorem dX13_beginsMarked_116 : decode cX13_beginsMarked 116 = .ok (.iload 4, 2) := by decide +kernel
theorem dX13_beginsMarked_118 : decode cX13_beginsMarked 118 = .ok (.istore 6, 2) := by decide +kernel
theorem dX13_beginsMarked_120 : decode cX13_beginsMarked 120 = .ok (.iload 6, 2) := by decide +kernel
theorem dX13_beginsMarked_122 : decode cX13_beginsMarked 122 = .ok (.iload 5, 2) := by decide +kernel
theorem dX13_beginsMarked_124 : decode cX13_beginsMarked 124 = .ok (.if_icmp .gt 76, 3) := by decide +kernel
theorem dX13_beginsMarked_127 : decode cX13_beginsMarked 127 = .ok (.iconst 0, 1) := by decide +kernel
theorem dX13_beginsMarked_128 : decode cX13_beginsMarked 128 = .ok (.istore 7, 2) := by decide +kernel
theorem dX13_beginsMarked_130 : decode cX13_beginsMarked 130 = .ok (.iconst 0, 1) := by decide +kernel
theorem dX13_beginsMarked_131 : decode cX13_beginsMarked 131 = .ok (.istore 8, 2) := by decide +kernel
theorem dX13_beginsMarked_133 : decode cX13_beginsMarked 133 = .ok (.iload 8, 2) := by decide +kernel
theorem dX13_beginsMarked_135 : decode cX13_beginsMarked 135 = .ok (.aload_n 0, 1) := by decide +kernel
theorem dX13_beginsMarked_136 : decode cX13_beginsMarked 136 = .ok (.getfield 17, 3) := by decide +kernel
theorem dX13_beginsMarked_139 : decode cX13_beginsMarked 139 = .ok (.iload 6, 2) := by decide +kernel
theorem dX13_beginsMarked_141 : decode cX13_beginsMarked 141 = .ok (.iaload, 1) := by decide +kernel
theorem dX13_beginsMarked_142 : decode cX13_beginsMarked 142 = .ok (.if_icmp .ge 26, 3) := by decide +kernel
theorem dX13_beginsMarked_145 : decode cX13_beginsMarked 145 = .ok (.iload 7, 2) := by decide +kernel
theorem dX13_beginsMarked_147 : decode cX13_beginsMarked 147 = .ok (.ifCond .ne 21, 3) := by decide +kernel
theorem dX13_beginsMarked_150 : decode cX13_beginsMarked 150 = .ok (.aload_n 0, 1) := by decide +kernel
theorem dX13_beginsMarked_151 : decode cX13_beginsMarked 151 = .ok (.iload 6, 2) := by decide +kernel
theorem dX13_beginsMarked_153 : decode cX13_beginsMarked 153 = .ok (.iload 8, 2) := by decide +kernel
theorem dX13_beginsMarked_155 : decode cX13_beginsMarked 155 = .ok (.iload_n 1, 1) := by decide +kernel
theorem dX13_beginsMarked_156 : decode cX13_beginsMarked 156 = .ok (.iload_n 2, 1) := by decide +kernel
theorem dX13_beginsMarked_157 : decode cX13_beginsMarked 157 = .ok (.invokevirtual 895, 3) := by decide +kernel
theorem dX13_beginsMarked_160 : decode cX13_beginsMarked 160 = .ok (.istore 7, 2) := by decide +kernel
theorem dX13_beginsMarked_162 : decode cX13_beginsMarked 162 = .ok (.iinc 8 1, 3) := by decide +kernel
theorem dX13_beginsMarked_165 : decode cX13_beginsMarked 165 = .ok (.goto (-32), 3) := by decide +kernel
theorem dX13_beginsMarked_168 : decode cX13_beginsMarked 168 = .ok (.iload 7, 2) := by decide +kernel
theorem dX13_beginsMarked_170 : decode cX13_beginsMarked 170 = .ok (.ifCond .eq 24, 3) := by decide +kernel
theorem dX13_beginsMarked_173 : decode cX13_beginsMarked 173 = .ok (.aload_n 0, 1) := by decide +kernel
theorem dX13_beginsMarked_174 : decode cX13_beginsMarked 174 = .ok (.getfield 148, 3) := by decide +kernel
theorem dX13_beginsMarked_177 : decode cX13_beginsMarked 177 = .ok (.bipush 41, 2) := by decide +kernel
theorem dX13_beginsMarked_179 : decode cX13_beginsMarked 179 = .ok (.aload_n 0, 1) := by decide +kernel
theorem dX13_beginsMarked_180 : decode cX13_beginsMarked 180 = .ok (.getfield 672, 3) := by decide +kernel
theorem dX13_beginsMarked_183 : decode cX13_beginsMarked 183 = .ok (.iconst 1, 1) := by decide +kernel
theorem dX13_beginsMarked_184 : decode cX13_beginsMarked 184 = .ok (.isub, 1) := by decide +kernel
theorem dX13_beginsMarked_185 : decode cX13_beginsMarked 185 = .ok (.imul, 1) := by decide +kernel
theorem dX13_beginsMarked_186 : decode cX13_beginsMarked 186 = .ok (.iload_n 3, 1) := by decide +kernel
theorem dX13_beginsMarked_187 : decode cX13_beginsMarked 187 = .ok (.iadd, 1) := by decide +kernel
theorem dX13_beginsMarked_188 : decode cX13_beginsMarked 188 = .ok (.iload 6, 2) := by decide +kernel
theorem dX13_beginsMarked_190 : decode cX13_beginsMarked 190 = .ok (.iastore, 1) := by decide +kernel
theorem dX13_beginsMarked_191 : decode cX13_beginsMarked 191 = .ok (.iinc 3 1, 3) := by decide +kernel
theorem dX13_beginsMarked_194 : decode cX13_beginsMarked 194 = .ok (.iinc 6 1, 3) := by decide +kernel
theorem dX13_beginsMarked_197 : decode cX13_beginsMarked 197 = .ok (.goto (-77), 3) := by decide +kernel
theorem dX13_beginsMarked_200 : decode cX13_beginsMarked 200 = .ok (.iload_n 2, 1) := by decide +kernel
theorem dX13_beginsMarked_201 : decode cX13_beginsMarked 201 = .ok (.iconst 1, 1) := by decide +kernel
theorem dX13_beginsMarked_202 : decode cX13_beginsMarked 202 = .ok (.iadd, 1) := by decide +kernel
theorem dX13_beginsMarked_203 : decode cX13_beginsMarked 203 = .ok (.istore 6, 2) := by decide +kernel
theorem dX13_beginsMarked_205 : decode cX13_beginsMarked 205 = .ok (.iload 6, 2) := by decide +kernel
theorem dX13_beginsMarked_207 : decode cX13_beginsMarked 207 = .ok (.aload_n 0, 1) := by decide +kernel
theorem dX13_beginsMarked_208 : decode cX13_beginsMarked 208 = .ok (.getfield 858, 3) := by decide +kernel
theorem dX13_beginsMarked_211 : decode cX13_beginsMarked 211 = .ok (.if_icmp .ge 20, 3) := by decide +kernel
theorem dX13_beginsMarked_214 : decode cX13_beginsMarked 214 = .ok (.aload_n 0, 1) := by decide +kernel
theorem dX13_beginsMarked_215 : decode cX13_beginsMarked 215 = .ok (.aload_n 0, 1) := by decide +kernel
theorem dX13_beginsMarked_216 : decode cX13_beginsMarked 216 = .ok (.getfield 154, 3) := by decide +kernel
theorem dX13_beginsMarked_219 : decode cX13_beginsMarked 219 = .ok (.iload 6, 2) := by decide +kernel
theorem dX13_beginsMarked_221 : decode cX13_beginsMarked 221 = .ok (.iaload, 1) := by decide +kernel
theorem dX13_beginsMarked_222 : decode cX13_beginsMarked 222 = .ok (.invokevirtual 702, 3) := by decide +kernel
theorem dX13_beginsMarked_225 : decode cX13_beginsMarked 225 = .ok (.iinc 6 1, 3) := by decide +kernel
theorem dX13_beginsMarked_228 : decode cX13_beginsMarked 228 = .ok (.goto (-23), 3) := by decide +kernel
theorem dX13_beginsMarked_231 : decode cX13_beginsMarked 231 = .ok (.iload_n 3, 1) := by decide +kernel
theorem dX13_beginsMarked_232 : decode cX13_beginsMarked 232 = .ok (.ifCond .ne 13, 3) := by decide +kernel
theorem dX13_beginsMarked_235 : decode cX13_beginsMarked 235 = .ok (.aload_n 0, 1) := by decide +kernel
theorem dX13_beginsMarked_236 : decode cX13_beginsMarked 236 = .ok (.dup, 1) := by decide +kernel
theorem dX13_beginsMarked_237 : decode cX13_beginsMarked 237 = .ok (.getfield 672, 3) := by decide +kernel
theorem dX13_beginsMarked_240 : decode cX13_beginsMarked 240 = .ok (.iconst 1, 1) := by decide +kernel
theorem dX13_beginsMarked_241 : decode cX13_beginsMarked 241 = .ok (.isub, 1) := by decide +kernel
theorem dX13_beginsMarked_242 : decode cX13_beginsMarked 242 = .ok (.putfield 672, 3) := by decide +kernel
theorem dX13_beginsMarked_245 : decode cX13_beginsMarked 245 = .ok (.iload_n 3, 1) := by decide +kernel
theorem dX13_beginsMarked_246 : decode cX13_beginsMarked 246 = .ok (.ifCond .le 7, 3) := by decide +kernel
theorem dX13_beginsMarked_249 : decode cX13_beginsMarked 249 = .ok (.iconst 1, 1) := by decide +kernel
theorem dX13_beginsMarked_250 : decode cX13_beginsMarked 250 = .ok (.goto 4, 3) := by decide +kernel
theorem dX13_beginsMarked_253 : decode cX13_beginsMarked 253 = .ok (.iconst 0, 1) := by decide +kernel
theorem dX13_beginsMarked_254 : decode cX13_beginsMarked 254 = .ok (.ireturn, 1) := by decide +kernel
theorem dX13_isOne_0 : decode cX13_isOne 0 = .ok (.aload_n 0, 1) := by decide +kernel
theorem dX13_isOne_1 : decode cX13_isOne 1 = .ok (.iload_n 1, 1) := by decide +kernel
theorem dX13_isOne_2 : decode cX13_isOne 2 = .ok (.invokevirtual 864, 3) := by decide +kernel
theorem dX13_isOne_5 : decode cX13_isOne 5 = .ok (.istore_n 2, 1) := by decide +kernel
theorem dX13_isOne_6 : decode cX13_isOne 6 = .ok (.iload_n 2, 1) := by decide +kernel
theorem dX13_isOne_7 : decode cX13_isOne 7 = .ok (.bipush 100, 2) := by decide +kernel
theorem dX13_isOne_9 : decode cX13_isOne 9 = .ok (.if_icmp .eq 51, 3) := by decide +kernel
theorem dX13_isOne_12 : decode cX13_isOne 12 = .ok (.iload_n 2, 1) := by decide +kernel
theorem dX13_isOne_13 : decode cX13_isOne 13 = .ok (.bipush 62, 2) := by decide +kernel
theorem dX13_isOne_15 : decode cX13_isOne 15 = .ok (.if_icmp .eq 45, 3) := by decide +kernel
theorem dX13_isOne_18 : decode cX13_isOne 18 = .ok (.iload_n 2, 1) := by decide +kernel
theorem dX13_isOne_19 : decode cX13_isOne 19 = .ok (.bipush 60, 2) := by decide +kernel
theorem dX13_isOne_21 : decode cX13_isOne 21 = .ok (.if_icmp .eq 39, 3) := by decide +kernel
theorem dX13_isOne_24 : decode cX13_isOne 24 = .ok (.iload_n 2, 1) := by decide +kernel
theorem dX13_isOne_25 : decode cX13_isOne 25 = .ok (.bipush 106, 2) := by decide +kernel
theorem dX13_isOne_27 : decode cX13_isOne 27 = .ok (.if_icmp .eq 33, 3) := by decide +kernel
theorem dX13_isOne_30 : decode cX13_isOne 30 = .ok (.iload_n 2, 1) := by decide +kernel
theorem dX13_isOne_31 : decode cX13_isOne 31 = .ok (.bipush 109, 2) := by decide +kernel
theorem dX13_isOne_33 : decode cX13_isOne 33 = .ok (.if_icmp .eq 27, 3) := by decide +kernel
theorem dX13_isOne_36 : decode cX13_isOne 36 = .ok (.iload_n 2, 1) := by decide +kernel
theorem dX13_isOne_37 : decode cX13_isOne 37 = .ok (.bipush 115, 2) := by decide +kernel
theorem dX13_isOne_39 : decode cX13_isOne 39 = .ok (.if_icmp .ne 15, 3) := by decide +kernel
theorem dX13_isOne_42 : decode cX13_isOne 42 = .ok (.aload_n 0, 1) := by decide +kernel
theorem dX13_isOne_43 : decode cX13_isOne 43 = .ok (.iload_n 1, 1) := by decide +kernel
theorem dX13_isOne_44 : decode cX13_isOne 44 = .ok (.iconst 1, 1) := by decide +kernel
theorem dX13_isOne_45 : decode cX13_isOne 45 = .ok (.iadd, 1) := by decide +kernel
theorem dX13_isOne_46 : decode cX13_isOne 46 = .ok (.invokevirtual 864, 3) := by decide +kernel
theorem dX13_isOne_49 : decode cX13_isOne 49 = .ok (.bipush 47, 2) := by decide +kernel
theorem dX13_isOne_51 : decode cX13_isOne 51 = .ok (.if_icmp .eq 9, 3) := by decide +kernel
theorem dX13_isOne_54 : decode cX13_isOne 54 = .ok (.iload_n 2, 1) := by decide +kernel
theorem dX13_isOne_55 : decode cX13_isOne 55 = .ok (.bipush 110, 2) := by decide +kernel
theorem dX13_isOne_57 : decode cX13_isOne 57 = .ok (.if_icmp .ne 7, 3) := by decide +kernel
theorem dX13_isOne_60 : decode cX13_isOne 60 = .ok (.iconst 1, 1) := by decide +kernel
theorem dX13_isOne_61 : decode cX13_isOne 61 = .ok (.goto 4, 3) := by decide +kernel
theorem dX13_isOne_64 : decode cX13_isOne 64 = .ok (.iconst 0, 1) := by decide +kernel
theorem dX13_isOne_65 : decode cX13_isOne 65 = .ok (.ireturn, 1) := by decide +kernel
theorem dX13_doesOnLines_0 : decode cX13_doesOnLines 0 = .ok (.aload_n 0, 1) := by decide +kernel
theorem dX13_doesOnLines_1 : decode cX13_doesOnLines 1 = .ok (.aload_n 0, 1) := by decide +kernel
theorem dX13_doesOnLines_2 : decode cX13_doesOnLines 2 = .ok (.getfield 861, 3) := by decide +kernel
theorem dX13_doesOnLines_5 : decode cX13_doesOnLines 5 = .ok (.invokevirtual 864, 3) := by decide +kernel
theorem dX13_doesOnLines_8 : decode cX13_doesOnLines 8 = .ok (.istore_n 1, 1) := by decide +kernel
theorem dX13_doesOnLines_9 : decode cX13_doesOnLines 9 = .ok (.aload_n 0, 1) := by decide +kernel
theorem dX13_doesOnLines_10 : decode cX13_doesOnLines 10 = .ok (.dup, 1) := by decide +kernel
theorem dX13_doesOnLines_11 : decode cX13_doesOnLines 11 = .ok (.getfield 861, 3) := by decide +kernel
theorem dX13_doesOnLines_14 : decode cX13_doesOnLines 14 = .ok (.iconst 1, 1) := by decide +kernel
theorem dX13_doesOnLines_15 : decode cX13_doesOnLines 15 = .ok (.iadd, 1) := by decide +kernel
theorem dX13_doesOnLines_16 : decode cX13_doesOnLines 16 = .ok (.putfield 861, 3) := by decide +kernel
theorem dX13_doesOnLines_19 : decode cX13_doesOnLines 19 = .ok (.aload_n 0, 1) := by decide +kernel
theorem dX13_doesOnLines_20 : decode cX13_doesOnLines 20 = .ok (.aload_n 0, 1) := by decide +kernel
theorem dX13_doesOnLines_21 : decode cX13_doesOnLines 21 = .ok (.getfield 870, 3) := by decide +kernel
theorem dX13_doesOnLines_24 : decode cX13_doesOnLines 24 = .ok (.aload_n 0, 1) := by decide +kernel
theorem dX13_doesOnLines_25 : decode cX13_doesOnLines 25 = .ok (.getfield 873, 3) := by decide +kernel
theorem dX13_doesOnLines_28 : decode cX13_doesOnLines 28 = .ok (.invokevirtual 414, 3) := by decide +kernel
theorem dX13_doesOnLines_31 : decode cX13_doesOnLines 31 = .ok (.iload_n 1, 1) := by decide +kernel
theorem dX13_doesOnLines_32 : decode cX13_doesOnLines 32 = .ok (.lookupswitch 277 #[(60, 119), (62, 119), (100, 76), (106, 156), (109, 201), (110, 272), (115, 206), (121, 98)], 76) := by decide +kernel
theorem dX13_doesOnLines_108 : decode cX13_doesOnLines 108 = .ok (.aload_n 0, 1) := by decide +kernel
theorem dX13_doesOnLines_109 : decode cX13_doesOnLines 109 = .ok (.invokevirtual 880, 3) := by decide +kernel
theorem dX13_doesOnLines_112 : decode cX13_doesOnLines 112 = .ok (.ifCond .eq 16, 3) := by decide +kernel
theorem dX13_doesOnLines_115 : decode cX13_doesOnLines 115 = .ok (.aload_n 0, 1) := by decide +kernel
theorem dX13_doesOnLines_116 : decode cX13_doesOnLines 116 = .ok (.iconst 0, 1) := by decide +kernel
theorem dX13_doesOnLines_117 : decode cX13_doesOnLines 117 = .ok (.iconst 0, 1) := by decide +kernel
theorem dX13_doesOnLines_118 : decode cX13_doesOnLines 118 = .ok (.invokevirtual 526, 3) := by decide +kernel
theorem dX13_doesOnLines_121 : decode cX13_doesOnLines 121 = .ok (.ifCond .eq 7, 3) := by decide +kernel
theorem dX13_doesOnLines_124 : decode cX13_doesOnLines 124 = .ok (.iconst 1, 1) := by decide +kernel
theorem dX13_doesOnLines_125 : decode cX13_doesOnLines 125 = .ok (.goto 4, 3) := by decide +kernel
theorem dX13_doesOnLines_128 : decode cX13_doesOnLines 128 = .ok (.iconst 0, 1) := by decide +kernel
theorem dX13_doesOnLines_129 : decode cX13_doesOnLines 129 = .ok (.ireturn, 1) := by decide +kernel
theorem dX13_doesOnLines_130 : decode cX13_doesOnLines 130 = .ok (.aload_n 0, 1) := by decide +kernel
theorem dX13_doesOnLines_131 : decode cX13_doesOnLines 131 = .ok (.invokevirtual 880, 3) := by decide +kernel
theorem dX13_doesOnLines_134 : decode cX13_doesOnLines 134 = .ok (.ifCond .ne 5, 3) := by decide +kernel
theorem dX13_doesOnLines_137 : decode cX13_doesOnLines 137 = .ok (.iconst 0, 1) := by decide +kernel
theorem dX13_doesOnLines_138 : decode cX13_doesOnLines 138 = .ok (.ireturn, 1) := by decide +kernel
theorem dX13_doesOnLines_139 : decode cX13_doesOnLines 139 = .ok (.aload_n 0, 1) := by decide +kernel
theorem dX13_doesOnLines_140 : decode cX13_doesOnLines 140 = .ok (.invokevirtual 487, 3) := by decide +kernel
theorem dX13_doesOnLines_143 : decode cX13_doesOnLines 143 = .ok (.aload_n 0, 1) := by decide +kernel
theorem dX13_doesOnLines_144 : decode cX13_doesOnLines 144 = .ok (.iconst 0, 1) := by decide +kernel
theorem dX13_doesOnLines_145 : decode cX13_doesOnLines 145 = .ok (.iconst 1, 1) := by decide +kernel
theorem dX13_doesOnLines_146 : decode cX13_doesOnLines 146 = .ok (.invokevirtual 496, 3) := by decide +kernel
theorem dX13_doesOnLines_149 : decode cX13_doesOnLines 149 = .ok (.iconst 1, 1) := by decide +kernel
theorem dX13_doesOnLines_150 : decode cX13_doesOnLines 150 = .ok (.ireturn, 1) := by decide +kernel
theorem dX13_doesOnLines_151 : decode cX13_doesOnLines 151 = .ok (.aload_n 0, 1) := by decide +kernel
theorem dX13_doesOnLines_152 : decode cX13_doesOnLines 152 = .ok (.invokevirtual 880, 3) := by decide +kernel
theorem dX13_doesOnLines_155 : decode cX13_doesOnLines 155 = .ok (.ifCond .eq 21, 3) := by decide +kernel
theorem dX13_doesOnLines_158 : decode cX13_doesOnLines 158 = .ok (.aload_n 0, 1) := by decide +kernel
theorem dX13_doesOnLines_159 : decode cX13_doesOnLines 159 = .ok (.iload_n 1, 1) := by decide +kernel
theorem dX13_doesOnLines_160 : decode cX13_doesOnLines 160 = .ok (.bipush 62, 2) := by decide +kernel
theorem dX13_doesOnLines_162 : decode cX13_doesOnLines 162 = .ok (.if_icmp .ne 7, 3) := by decide +kernel
theorem dX13_doesOnLines_165 : decode cX13_doesOnLines 165 = .ok (.iconst 1, 1) := by decide +kernel
theorem dX13_doesOnLines_166 : decode cX13_doesOnLines 166 = .ok (.goto 4, 3) := by decide +kernel
theorem dX13_doesOnLines_169 : decode cX13_doesOnLines 169 = .ok (.iconst 0, 1) := by decide +kernel
theorem dX13_doesOnLines_170 : decode cX13_doesOnLines 170 = .ok (.invokevirtual 532, 3) := by decide +kernel
theorem dX13_doesOnLines_173 : decode cX13_doesOnLines 173 = .ok (.ifCond .ne 5, 3) := by decide +kernel
theorem dX13_doesOnLines_176 : decode cX13_doesOnLines 176 = .ok (.iconst 0, 1) := by decide +kernel
theorem dX13_doesOnLines_177 : decode cX13_doesOnLines 177 = .ok (.ireturn, 1) := by decide +kernel
theorem dX13_doesOnLines_178 : decode cX13_doesOnLines 178 = .ok (.aload_n 0, 1) := by decide +kernel
theorem dX13_doesOnLines_179 : decode cX13_doesOnLines 179 = .ok (.aload_n 0, 1) := by decide +kernel
theorem dX13_doesOnLines_180 : decode cX13_doesOnLines 180 = .ok (.getfield 873, 3) := by decide +kernel
theorem dX13_doesOnLines_183 : decode cX13_doesOnLines 183 = .ok (.invokevirtual 507, 3) := by decide +kernel
theorem dX13_doesOnLines_186 : decode cX13_doesOnLines 186 = .ok (.iconst 1, 1) := by decide +kernel
theorem dX13_doesOnLines_187 : decode cX13_doesOnLines 187 = .ok (.ireturn, 1) := by decide +kernel
theorem dX13_doesOnLines_188 : decode cX13_doesOnLines 188 = .ok (.aload_n 0, 1) := by decide +kernel
theorem dX13_doesOnLines_189 : decode cX13_doesOnLines 189 = .ok (.invokevirtual 880, 3) := by decide +kernel
theorem dX13_doesOnLines_192 : decode cX13_doesOnLines 192 = .ok (.ifCond .eq 29, 3) := by decide +kernel
theorem dX13_doesOnLines_195 : decode cX13_doesOnLines 195 = .ok (.aload_n 0, 1) := by decide +kernel
theorem dX13_doesOnLines_196 : decode cX13_doesOnLines 196 = .ok (.aload_n 0, 1) := by decide +kernel
theorem dX13_doesOnLines_197 : decode cX13_doesOnLines 197 = .ok (.getfield 870, 3) := by decide +kernel
theorem dX13_doesOnLines_200 : decode cX13_doesOnLines 200 = .ok (.iconst 2, 1) := by decide +kernel
theorem dX13_doesOnLines_201 : decode cX13_doesOnLines 201 = .ok (.aload_n 0, 1) := by decide +kernel
theorem dX13_doesOnLines_202 : decode cX13_doesOnLines 202 = .ok (.getfield 873, 3) := by decide +kernel
theorem dX13_doesOnLines_205 : decode cX13_doesOnLines 205 = .ok (.aload_n 0, 1) := by decide +kernel
theorem dX13_doesOnLines_206 : decode cX13_doesOnLines 206 = .ok (.getfield 870, 3) := by decide +kernel
theorem dX13_doesOnLines_209 : decode cX13_doesOnLines 209 = .ok (.isub, 1) := by decide +kernel
theorem dX13_doesOnLines_210 : decode cX13_doesOnLines 210 = .ok (.iconst 1, 1) := by decide +kernel
theorem dX13_doesOnLines_211 : decode cX13_doesOnLines 211 = .ok (.iadd, 1) := by decide +kernel
theorem dX13_doesOnLines_212 : decode cX13_doesOnLines 212 = .ok (.invokestatic 210, 3) := by decide +kernel
theorem dX13_doesOnLines_215 : decode cX13_doesOnLines 215 = .ok (.invokevirtual 754, 3) := by decide +kernel
theorem dX13_doesOnLines_218 : decode cX13_doesOnLines 218 = .ok (.ifCond .ne 5, 3) := by decide +kernel
theorem dX13_doesOnLines_221 : decode cX13_doesOnLines 221 = .ok (.iconst 0, 1) := by decide +kernel
theorem dX13_doesOnLines_222 : decode cX13_doesOnLines 222 = .ok (.ireturn, 1) := by decide +kernel
theorem dX13_doesOnLines_223 : decode cX13_doesOnLines 223 = .ok (.aload_n 0, 1) := by decide +kernel
theorem dX13_doesOnLines_224 : decode cX13_doesOnLines 224 = .ok (.aload_n 0, 1) := by decide +kernel
theorem dX13_doesOnLines_225 : decode cX13_doesOnLines 225 = .ok (.getfield 870, 3) := by decide +kernel
theorem dX13_doesOnLines_228 : decode cX13_doesOnLines 228 = .ok (.invokevirtual 507, 3) := by decide +kernel
theorem dX13_doesOnLines_231 : decode cX13_doesOnLines 231 = .ok (.iconst 1, 1) := by decide +kernel
theorem dX13_doesOnLines_232 : decode cX13_doesOnLines 232 = .ok (.ireturn, 1) := by decide +kernel
theorem dX13_doesOnLines_233 : decode cX13_doesOnLines 233 = .ok (.aload_n 0, 1) := by decide +kernel
theorem dX13_doesOnLines_234 : decode cX13_doesOnLines 234 = .ok (.invokevirtual 905, 3) := by decide +kernel
theorem dX13_doesOnLines_237 : decode cX13_doesOnLines 237 = .ok (.ireturn, 1) := by decide +kernel
theorem dX13_doesOnLines_238 : decode cX13_doesOnLines 238 = .ok (.aload_n 0, 1) := by decide +kernel
theorem dX13_doesOnLines_239 : decode cX13_doesOnLines 239 = .ok (.getfield 858, 3) := by decide +kernel
theorem dX13_doesOnLines_242 : decode cX13_doesOnLines 242 = .ok (.aload_n 0, 1) := by decide +kernel
theorem dX13_doesOnLines_243 : decode cX13_doesOnLines 243 = .ok (.getfield 861, 3) := by decide +kernel
theorem dX13_doesOnLines_246 : decode cX13_doesOnLines 246 = .ok (.isub, 1) := by decide +kernel
theorem dX13_doesOnLines_247 : decode cX13_doesOnLines 247 = .ok (.iconst 3, 1) := by decide +kernel
theorem dX13_doesOnLines_248 : decode cX13_doesOnLines 248 = .ok (.if_icmp .ne 51, 3) := by decide +kernel
theorem dX13_doesOnLines_251 : decode cX13_doesOnLines 251 = .ok (.aload_n 0, 1) := by decide +kernel
theorem dX13_doesOnLines_252 : decode cX13_doesOnLines 252 = .ok (.aload_n 0, 1) := by decide +kernel
theorem dX13_doesOnLines_253 : decode cX13_doesOnLines 253 = .ok (.getfield 861, 3) := by decide +kernel
theorem dX13_doesOnLines_256 : decode cX13_doesOnLines 256 = .ok (.invokevirtual 864, 3) := by decide +kernel
theorem dX13_doesOnLines_259 : decode cX13_doesOnLines 259 = .ok (.bipush 111, 2) := by decide +kernel
theorem dX13_doesOnLines_261 : decode cX13_doesOnLines 261 = .ok (.if_icmp .ne 38, 3) := by decide +kernel
theorem dX13_doesOnLines_264 : decode cX13_doesOnLines 264 = .ok (.aload_n 0, 1) := by decide +kernel
theorem dX13_doesOnLines_265 : decode cX13_doesOnLines 265 = .ok (.aload_n 0, 1) := by decide +kernel
theorem dX13_doesOnLines_266 : decode cX13_doesOnLines 266 = .ok (.getfield 861, 3) := by decide +kernel
theorem dX13_doesOnLines_269 : decode cX13_doesOnLines 269 = .ok (.iconst 1, 1) := by decide +kernel
theorem dX13_doesOnLines_270 : decode cX13_doesOnLines 270 = .ok (.iadd, 1) := by decide +kernel
theorem dX13_doesOnLines_271 : decode cX13_doesOnLines 271 = .ok (.invokevirtual 864, 3) := by decide +kernel
theorem dX13_doesOnLines_274 : decode cX13_doesOnLines 274 = .ok (.bipush 114, 2) := by decide +kernel
theorem dX13_doesOnLines_276 : decode cX13_doesOnLines 276 = .ok (.if_icmp .ne 23, 3) := by decide +kernel
theorem dX13_doesOnLines_279 : decode cX13_doesOnLines 279 = .ok (.aload_n 0, 1) := by decide +kernel
theorem dX13_doesOnLines_280 : decode cX13_doesOnLines 280 = .ok (.aload_n 0, 1) := by decide +kernel
theorem dX13_doesOnLines_281 : decode cX13_doesOnLines 281 = .ok (.getfield 861, 3) := by decide +kernel
theorem dX13_doesOnLines_284 : decode cX13_doesOnLines 284 = .ok (.iconst 2, 1) := by decide +kernel
theorem dX13_doesOnLines_285 : decode cX13_doesOnLines 285 = .ok (.iadd, 1) := by decide +kernel
theorem dX13_doesOnLines_286 : decode cX13_doesOnLines 286 = .ok (.invokevirtual 864, 3) := by decide +kernel
theorem dX13_doesOnLines_289 : decode cX13_doesOnLines 289 = .ok (.bipush 116, 2) := by decide +kernel
theorem dX13_doesOnLines_291 : decode cX13_doesOnLines 291 = .ok (.if_icmp .ne 8, 3) := by decide +kernel
theorem dX13_doesOnLines_294 : decode cX13_doesOnLines 294 = .ok (.aload_n 0, 1) := by decide +kernel
theorem dX13_doesOnLines_295 : decode cX13_doesOnLines 295 = .ok (.invokevirtual 908, 3) := by decide +kernel
theorem dX13_doesOnLines_298 : decode cX13_doesOnLines 298 = .ok (.ireturn, 1) := by decide +kernel
theorem dX13_doesOnLines_299 : decode cX13_doesOnLines 299 = .ok (.aload_n 0, 1) := by decide +kernel
theorem dX13_doesOnLines_300 : decode cX13_doesOnLines 300 = .ok (.invokevirtual 911, 3) := by decide +kernel
theorem dX13_doesOnLines_303 : decode cX13_doesOnLines 303 = .ok (.ireturn, 1) := by decide +kernel
theorem dX13_doesOnLines_304 : decode cX13_doesOnLines 304 = .ok (.aload_n 0, 1) := by decide +kernel
theorem dX13_doesOnLines_305 : decode cX13_doesOnLines 305 = .ok (.invokevirtual 914, 3) := by decide +kernel
theorem dX13_doesOnLines_308 : decode cX13_doesOnLines 308 = .ok (.ireturn, 1) := by decide +kernel
theorem dX13_doesOnLines_309 : decode cX13_doesOnLines 309 = .ok (.iconst 0, 1) := by decide +kernel
theorem dX13_doesOnLines_310 : decode cX13_doesOnLines 310 = .ok (.ireturn, 1) := by decide +kernel
theorem dX13_doesLine_0 : decode cX13_doesLine 0 = .ok (.aload_n 0, 1) := by decide +kernel
theorem dX13_doesLine_1 : decode cX13_doesLine 1 = .ok (.iconst 0, 1) := by decide +kernel
theorem dX13_doesLine_2 : decode cX13_doesLine 2 = .ok (.putfield 861, 3) := by decide +kernel
theorem dX13_doesLine_5 : decode cX13_doesLine 5 = .ok (.aload_n 0, 1) := by decide +kernel
theorem dX13_doesLine_6 : decode cX13_doesLine 6 = .ok (.aload_n 0, 1) := by decide +kernel
theorem dX13_doesLine_7 : decode cX13_doesLine 7 = .ok (.getfield 773, 3) := by decide +kernel
theorem dX13_doesLine_10 : decode cX13_doesLine 10 = .ok (.putfield 858, 3) := by decide +kernel
theorem dX13_doesLine_13 : decode cX13_doesLine 13 = .ok (.iconst 0, 1) := by decide +kernel
theorem dX13_doesLine_14 : decode cX13_doesLine 14 = .ok (.istore_n 1, 1) := by decide +kernel
theorem dX13_doesLine_15 : decode cX13_doesLine 15 = .ok (.iload_n 1, 1) := by decide +kernel
theorem dX13_doesLine_16 : decode cX13_doesLine 16 = .ok (.aload_n 0, 1) := by decide +kernel
theorem dX13_doesLine_17 : decode cX13_doesLine 17 = .ok (.getfield 773, 3) := by decide +kernel
theorem dX13_doesLine_20 : decode cX13_doesLine 20 = .ok (.if_icmp .ge 21, 3) := by decide +kernel
theorem dX13_doesLine_23 : decode cX13_doesLine 23 = .ok (.aload_n 0, 1) := by decide +kernel
theorem dX13_doesLine_24 : decode cX13_doesLine 24 = .ok (.getfield 154, 3) := by decide +kernel
theorem dX13_doesLine_27 : decode cX13_doesLine 27 = .ok (.iload_n 1, 1) := by decide +kernel
theorem dX13_doesLine_28 : decode cX13_doesLine 28 = .ok (.aload_n 0, 1) := by decide +kernel
theorem dX13_doesLine_29 : decode cX13_doesLine 29 = .ok (.getfield 151, 3) := by decide +kernel
theorem dX13_doesLine_32 : decode cX13_doesLine 32 = .ok (.iload_n 1, 1) := by decide +kernel
theorem dX13_doesLine_33 : decode cX13_doesLine 33 = .ok (.iaload, 1) := by decide +kernel
theorem dX13_doesLine_34 : decode cX13_doesLine 34 = .ok (.iastore, 1) := by decide +kernel
theorem dX13_doesLine_35 : decode cX13_doesLine 35 = .ok (.iinc 1 1, 3) := by decide +kernel
theorem dX13_doesLine_38 : decode cX13_doesLine 38 = .ok (.goto (-23), 3) := by decide +kernel
theorem dX13_doesLine_41 : decode cX13_doesLine 41 = .ok (.aload_n 0, 1) := by decide +kernel
theorem dX13_doesLine_42 : decode cX13_doesLine 42 = .ok (.invokevirtual 917, 3) := by decide +kernel
theorem dX13_doesLine_45 : decode cX13_doesLine 45 = .ok (.ifCond .ne 5, 3) := by decide +kernel
theorem dX13_doesLine_48 : decode cX13_doesLine 48 = .ok (.iconst 0, 1) := by decide +kernel
theorem dX13_doesLine_49 : decode cX13_doesLine 49 = .ok (.ireturn, 1) := by decide +kernel
theorem dX13_doesLine_50 : decode cX13_doesLine 50 = .ok (.aload_n 0, 1) := by decide +kernel
theorem dX13_doesLine_51 : decode cX13_doesLine 51 = .ok (.aload_n 0, 1) := by decide +kernel
theorem dX13_doesLine_52 : decode cX13_doesLine 52 = .ok (.getfield 861, 3) := by decide +kernel
theorem dX13_doesLine_55 : decode cX13_doesLine 55 = .ok (.invokevirtual 864, 3) := by decide +kernel
theorem dX13_doesLine_58 : decode cX13_doesLine 58 = .ok (.bipush 103, 2) := by decide +kernel
theorem dX13_doesLine_60 : decode cX13_doesLine 60 = .ok (.if_icmp .ne 18, 3) := by decide +kernel
theorem dX13_doesLine_63 : decode cX13_doesLine 63 = .ok (.aload_n 0, 1) := by decide +kernel
theorem dX13_doesLine_64 : decode cX13_doesLine 64 = .ok (.dup, 1) := by decide +kernel
theorem dX13_doesLine_65 : decode cX13_doesLine 65 = .ok (.getfield 861, 3) := by decide +kernel
theorem dX13_doesLine_68 : decode cX13_doesLine 68 = .ok (.iconst 1, 1) := by decide +kernel
theorem dX13_doesLine_69 : decode cX13_doesLine 69 = .ok (.iadd, 1) := by decide +kernel
theorem dX13_doesLine_70 : decode cX13_doesLine 70 = .ok (.putfield 861, 3) := by decide +kernel
theorem dX13_doesLine_73 : decode cX13_doesLine 73 = .ok (.aload_n 0, 1) := by decide +kernel
theorem dX13_doesLine_74 : decode cX13_doesLine 74 = .ok (.invokevirtual 920, 3) := by decide +kernel
theorem dX13_doesLine_77 : decode cX13_doesLine 77 = .ok (.ireturn, 1) := by decide +kernel
theorem dX13_doesLine_78 : decode cX13_doesLine 78 = .ok (.aload_n 0, 1) := by decide +kernel
theorem dX13_doesLine_79 : decode cX13_doesLine 79 = .ok (.invokevirtual 923, 3) := by decide +kernel
theorem dX13_doesLine_82 : decode cX13_doesLine 82 = .ok (.ireturn, 1) := by decide +kernel
theorem dX13_lineKey_0 : decode cX13_lineKey 0 = .ok (.iload_n 1, 1) := by decide +kernel
theorem dX13_lineKey_1 : decode cX13_lineKey 1 = .ok (.bipush 27, 2) := by decide +kernel
theorem dX13_lineKey_3 : decode cX13_lineKey 3 = .ok (.if_icmp .eq 16, 3) := by decide +kernel
theorem dX13_lineKey_6 : decode cX13_lineKey 6 = .ok (.iload_n 1, 1) := by decide +kernel
theorem dX13_lineKey_7 : decode cX13_lineKey 7 = .ok (.bipush 8, 2) := by decide +kernel
theorem dX13_lineKey_9 : decode cX13_lineKey 9 = .ok (.if_icmp .ne 22, 3) := by decide +kernel
theorem dX13_lineKey_12 : decode cX13_lineKey 12 = .ok (.aload_n 0, 1) := by decide +kernel
theorem dX13_lineKey_13 : decode cX13_lineKey 13 = .ok (.getfield 773, 3) := by decide +kernel
theorem dX13_lineKey_16 : decode cX13_lineKey 16 = .ok (.ifCond .ne 15, 3) := by decide +kernel
theorem dX13_lineKey_19 : decode cX13_lineKey 19 = .ok (.aload_n 0, 1) := by decide +kernel
theorem dX13_lineKey_20 : decode cX13_lineKey 20 = .ok (.iconst 0, 1) := by decide +kernel
theorem dX13_lineKey_21 : decode cX13_lineKey 21 = .ok (.putfield 466, 3) := by decide +kernel
theorem dX13_lineKey_24 : decode cX13_lineKey 24 = .ok (.aload_n 0, 1) := by decide +kernel
theorem dX13_lineKey_25 : decode cX13_lineKey 25 = .ok (.invokevirtual 723, 3) := by decide +kernel
theorem dX13_lineKey_28 : decode cX13_lineKey 28 = .ok (.goto 87, 3) := by decide +kernel
theorem dX13_lineKey_31 : decode cX13_lineKey 31 = .ok (.iload_n 1, 1) := by decide +kernel
theorem dX13_lineKey_32 : decode cX13_lineKey 32 = .ok (.bipush 8, 2) := by decide +kernel
theorem dX13_lineKey_34 : decode cX13_lineKey 34 = .ok (.if_icmp .ne 16, 3) := by decide +kernel
theorem dX13_lineKey_37 : decode cX13_lineKey 37 = .ok (.aload_n 0, 1) := by decide +kernel
theorem dX13_lineKey_38 : decode cX13_lineKey 38 = .ok (.dup, 1) := by decide +kernel
theorem dX13_lineKey_39 : decode cX13_lineKey 39 = .ok (.getfield 773, 3) := by decide +kernel
theorem dX13_lineKey_42 : decode cX13_lineKey 42 = .ok (.iconst 1, 1) := by decide +kernel
theorem dX13_lineKey_43 : decode cX13_lineKey 43 = .ok (.isub, 1) := by decide +kernel
theorem dX13_lineKey_44 : decode cX13_lineKey 44 = .ok (.putfield 773, 3) := by decide +kernel
theorem dX13_lineKey_47 : decode cX13_lineKey 47 = .ok (.goto 68, 3) := by decide +kernel
theorem dX13_lineKey_50 : decode cX13_lineKey 50 = .ok (.iload_n 1, 1) := by decide +kernel
theorem dX13_lineKey_51 : decode cX13_lineKey 51 = .ok (.invokestatic 202, 3) := by decide +kernel
theorem dX13_lineKey_54 : decode cX13_lineKey 54 = .ok (.ifCond .eq 35, 3) := by decide +kernel
theorem dX13_lineKey_57 : decode cX13_lineKey 57 = .ok (.aload_n 0, 1) := by decide +kernel
theorem dX13_lineKey_58 : decode cX13_lineKey 58 = .ok (.getfield 773, 3) := by decide +kernel
theorem dX13_lineKey_61 : decode cX13_lineKey 61 = .ok (.bipush 60, 2) := by decide +kernel
theorem dX13_lineKey_63 : decode cX13_lineKey 63 = .ok (.if_icmp .ge 26, 3) := by decide +kernel
theorem dX13_lineKey_66 : decode cX13_lineKey 66 = .ok (.aload_n 0, 1) := by decide +kernel
theorem dX13_lineKey_67 : decode cX13_lineKey 67 = .ok (.getfield 151, 3) := by decide +kernel
theorem dX13_lineKey_70 : decode cX13_lineKey 70 = .ok (.aload_n 0, 1) := by decide +kernel
theorem dX13_lineKey_71 : decode cX13_lineKey 71 = .ok (.getfield 773, 3) := by decide +kernel
theorem dX13_lineKey_74 : decode cX13_lineKey 74 = .ok (.iload_n 1, 1) := by decide +kernel
theorem dX13_lineKey_75 : decode cX13_lineKey 75 = .ok (.iastore, 1) := by decide +kernel
theorem dX13_lineKey_76 : decode cX13_lineKey 76 = .ok (.aload_n 0, 1) := by decide +kernel
theorem dX13_lineKey_77 : decode cX13_lineKey 77 = .ok (.dup, 1) := by decide +kernel
theorem dX13_lineKey_78 : decode cX13_lineKey 78 = .ok (.getfield 773, 3) := by decide +kernel
theorem dX13_lineKey_81 : decode cX13_lineKey 81 = .ok (.iconst 1, 1) := by decide +kernel
theorem dX13_lineKey_82 : decode cX13_lineKey 82 = .ok (.iadd, 1) := by decide +kernel
theorem dX13_lineKey_83 : decode cX13_lineKey 83 = .ok (.putfield 773, 3) := by decide +kernel
theorem dX13_lineKey_86 : decode cX13_lineKey 86 = .ok (.goto 29, 3) := by decide +kernel
theorem dX13_lineKey_89 : decode cX13_lineKey 89 = .ok (.iload_n 1, 1) := by decide +kernel
theorem dX13_lineKey_90 : decode cX13_lineKey 90 = .ok (.bipush 13, 2) := by decide +kernel
theorem dX13_lineKey_92 : decode cX13_lineKey 92 = .ok (.if_icmp .ne 23, 3) := by decide +kernel
theorem dX13_lineKey_95 : decode cX13_lineKey 95 = .ok (.aload_n 0, 1) := by decide +kernel
theorem dX13_lineKey_96 : decode cX13_lineKey 96 = .ok (.iconst 0, 1) := by decide +kernel
theorem dX13_lineKey_97 : decode cX13_lineKey 97 = .ok (.putfield 466, 3) := by decide +kernel
theorem dX13_lineKey_100 : decode cX13_lineKey 100 = .ok (.aload_n 0, 1) := by decide +kernel
theorem dX13_lineKey_101 : decode cX13_lineKey 101 = .ok (.invokevirtual 926, 3) := by decide +kernel
theorem dX13_lineKey_104 : decode cX13_lineKey 104 = .ok (.ifCond .ne 7, 3) := by decide +kernel
theorem dX13_lineKey_107 : decode cX13_lineKey 107 = .ok (.aload_n 0, 1) := by decide +kernel
theorem dX13_lineKey_108 : decode cX13_lineKey 108 = .ok (.invokevirtual 929, 3) := by decide +kernel
theorem dX13_lineKey_111 : decode cX13_lineKey 111 = .ok (.aload_n 0, 1) := by decide +kernel
theorem dX13_lineKey_112 : decode cX13_lineKey 112 = .ok (.invokevirtual 723, 3) := by decide +kernel
theorem dX13_lineKey_115 : decode cX13_lineKey 115 = .ok (.return_, 1) := by decide +kernel
theorem dX13_commandKey_0 : decode cX13_commandKey 0 = .ok (.iload_n 1, 1) := by decide +kernel
theorem dX13_commandKey_1 : decode cX13_commandKey 1 = .ok (.bipush 27, 2) := by decide +kernel
theorem dX13_commandKey_3 : decode cX13_commandKey 3 = .ok (.if_icmp .ne 71, 3) := by decide +kernel
theorem dX13_commandKey_6 : decode cX13_commandKey 6 = .ok (.aload_n 0, 1) := by decide +kernel
theorem dX13_commandKey_7 : decode cX13_commandKey 7 = .ok (.getfield 609, 3) := by decide +kernel
theorem dX13_commandKey_10 : decode cX13_commandKey 10 = .ok (.ifCond .ne 7, 3) := by decide +kernel
theorem dX13_commandKey_13 : decode cX13_commandKey 13 = .ok (.iconst 1, 1) := by decide +kernel
theorem dX13_commandKey_14 : decode cX13_commandKey 14 = .ok (.goto 4, 3) := by decide +kernel
theorem dX13_commandKey_17 : decode cX13_commandKey 17 = .ok (.iconst 0, 1) := by decide +kernel
theorem dX13_commandKey_18 : decode cX13_commandKey 18 = .ok (.istore_n 2, 1) := by decide +kernel
theorem dX13_commandKey_19 : decode cX13_commandKey 19 = .ok (.aload_n 0, 1) := by decide +kernel
theorem dX13_commandKey_20 : decode cX13_commandKey 20 = .ok (.invokevirtual 678, 3) := by decide +kernel
theorem dX13_commandKey_23 : decode cX13_commandKey 23 = .ok (.aload_n 0, 1) := by decide +kernel
theorem dX13_commandKey_24 : decode cX13_commandKey 24 = .ok (.iload_n 2, 1) := by decide +kernel
theorem dX13_commandKey_25 : decode cX13_commandKey 25 = .ok (.ifCond .eq 21, 3) := by decide +kernel
theorem dX13_commandKey_28 : decode cX13_commandKey 28 = .ok (.aload_n 0, 1) := by decide +kernel
theorem dX13_commandKey_29 : decode cX13_commandKey 29 = .ok (.getfield 466, 3) := by decide +kernel
theorem dX13_commandKey_32 : decode cX13_commandKey 32 = .ok (.ifCond .ne 14, 3) := by decide +kernel
theorem dX13_commandKey_35 : decode cX13_commandKey 35 = .ok (.aload_n 0, 1) := by decide +kernel
theorem dX13_commandKey_36 : decode cX13_commandKey 36 = .ok (.invokevirtual 247, 3) := by decide +kernel
theorem dX13_commandKey_39 : decode cX13_commandKey 39 = .ok (.ifCond .ne 7, 3) := by decide +kernel
theorem dX13_commandKey_42 : decode cX13_commandKey 42 = .ok (.iconst 0, 1) := by decide +kernel
theorem dX13_commandKey_43 : decode cX13_commandKey 43 = .ok (.goto 7, 3) := by decide +kernel
theorem dX13_commandKey_46 : decode cX13_commandKey 46 = .ok (.aload_n 0, 1) := by decide +kernel
theorem dX13_commandKey_47 : decode cX13_commandKey 47 = .ok (.getfield 244, 3) := by decide +kernel
theorem dX13_commandKey_50 : decode cX13_commandKey 50 = .ok (.putfield 244, 3) := by decide +kernel
theorem dX13_commandKey_53 : decode cX13_commandKey 53 = .ok (.aload_n 0, 1) := by decide +kernel
theorem dX13_commandKey_54 : decode cX13_commandKey 54 = .ok (.iload_n 2, 1) := by decide +kernel
theorem dX13_commandKey_55 : decode cX13_commandKey 55 = .ok (.ifCond .eq 7, 3) := by decide +kernel
theorem dX13_commandKey_58 : decode cX13_commandKey 58 = .ok (.iconst 0, 1) := by decide +kernel
theorem dX13_commandKey_59 : decode cX13_commandKey 59 = .ok (.goto 7, 3) := by decide +kernel
theorem dX13_commandKey_62 : decode cX13_commandKey 62 = .ok (.aload_n 0, 1) := by decide +kernel
theorem dX13_commandKey_63 : decode cX13_commandKey 63 = .ok (.getfield 466, 3) := by decide +kernel
theorem dX13_commandKey_66 : decode cX13_commandKey 66 = .ok (.putfield 466, 3) := by decide +kernel
theorem dX13_commandKey_69 : decode cX13_commandKey 69 = .ok (.aload_n 0, 1) := by decide +kernel
theorem dX13_commandKey_70 : decode cX13_commandKey 70 = .ok (.invokevirtual 723, 3) := by decide +kernel
theorem dX13_commandKey_73 : decode cX13_commandKey 73 = .ok (.return_, 1) := by decide +kernel
theorem dX13_commandKey_74 : decode cX13_commandKey 74 = .ok (.aload_n 0, 1) := by decide +kernel
theorem dX13_commandKey_75 : decode cX13_commandKey 75 = .ok (.getfield 609, 3) := by decide +kernel
theorem dX13_commandKey_78 : decode cX13_commandKey 78 = .ok (.ifCond .ne 14, 3) := by decide +kernel
theorem dX13_commandKey_81 : decode cX13_commandKey 81 = .ok (.aload_n 0, 1) := by decide +kernel
theorem dX13_commandKey_82 : decode cX13_commandKey 82 = .ok (.invokevirtual 247, 3) := by decide +kernel
theorem dX13_commandKey_85 : decode cX13_commandKey 85 = .ok (.ifCond .ne 7, 3) := by decide +kernel
theorem dX13_commandKey_88 : decode cX13_commandKey 88 = .ok (.aload_n 0, 1) := by decide +kernel
theorem dX13_commandKey_89 : decode cX13_commandKey 89 = .ok (.invokevirtual 932, 3) := by decide +kernel
theorem dX13_commandKey_92 : decode cX13_commandKey 92 = .ok (.aload_n 0, 1) := by decide +kernel
theorem dX13_commandKey_93 : decode cX13_commandKey 93 = .ok (.getfield 609, 3) := by decide +kernel
theorem dX13_commandKey_96 : decode cX13_commandKey 96 = .ok (.sipush 8000, 3) := by decide +kernel
theorem dX13_commandKey_99 : decode cX13_commandKey 99 = .ok (.if_icmp .ge 26, 3) := by decide +kernel
theorem dX13_commandKey_102 : decode cX13_commandKey 102 = .ok (.aload_n 0, 1) := by decide +kernel
theorem dX13_commandKey_103 : decode cX13_commandKey 103 = .ok (.getfield 95, 3) := by decide +kernel
theorem dX13_commandKey_106 : decode cX13_commandKey 106 = .ok (.aload_n 0, 1) := by decide +kernel
theorem dX13_commandKey_107 : decode cX13_commandKey 107 = .ok (.getfield 609, 3) := by decide +kernel
theorem dX13_commandKey_110 : decode cX13_commandKey 110 = .ok (.iload_n 1, 1) := by decide +kernel
theorem dX13_commandKey_111 : decode cX13_commandKey 111 = .ok (.iastore, 1) := by decide +kernel
theorem dX13_commandKey_112 : decode cX13_commandKey 112 = .ok (.aload_n 0, 1) := by decide +kernel
theorem dX13_commandKey_113 : decode cX13_commandKey 113 = .ok (.dup, 1) := by decide +kernel
theorem dX13_commandKey_114 : decode cX13_commandKey 114 = .ok (.getfield 609, 3) := by decide +kernel
theorem dX13_commandKey_117 : decode cX13_commandKey 117 = .ok (.iconst 1, 1) := by decide +kernel
theorem dX13_commandKey_118 : decode cX13_commandKey 118 = .ok (.iadd, 1) := by decide +kernel
theorem dX13_commandKey_119 : decode cX13_commandKey 119 = .ok (.putfield 609, 3) := by decide +kernel
theorem dX13_commandKey_122 : decode cX13_commandKey 122 = .ok (.goto 57, 3) := by decide +kernel
theorem dX13_commandKey_125 : decode cX13_commandKey 125 = .ok (.iload_n 1, 1) := by decide +kernel
theorem dX13_commandKey_126 : decode cX13_commandKey 126 = .ok (.invokestatic 202, 3) := by decide +kernel
theorem dX13_commandKey_129 : decode cX13_commandKey 129 = .ok (.ifCond .eq 30, 3) := by decide +kernel
theorem dX13_commandKey_132 : decode cX13_commandKey 132 = .ok (.aload_n 0, 1) := by decide +kernel
theorem dX13_commandKey_133 : decode cX13_commandKey 133 = .ok (.getfield 615, 3) := by decide +kernel
theorem dX13_commandKey_136 : decode cX13_commandKey 136 = .ok (.bipush 47, 2) := by decide +kernel
theorem dX13_commandKey_138 : decode cX13_commandKey 138 = .ok (.if_icmp .eq 10, 3) := by decide +kernel
theorem dX13_commandKey_141 : decode cX13_commandKey 141 = .ok (.iload_n 1, 1) := by decide +kernel
theorem dX13_commandKey_142 : decode cX13_commandKey 142 = .ok (.invokestatic 822, 3) := by decide +kernel
theorem dX13_commandKey_145 : decode cX13_commandKey 145 = .ok (.ifCond .eq 14, 3) := by decide +kernel
theorem dX13_commandKey_148 : decode cX13_commandKey 148 = .ok (.aload_n 0, 1) := by decide +kernel
theorem dX13_commandKey_149 : decode cX13_commandKey 149 = .ok (.dup, 1) := by decide +kernel
theorem dX13_commandKey_150 : decode cX13_commandKey 150 = .ok (.getfield 675, 3) := by decide +kernel
theorem dX13_commandKey_153 : decode cX13_commandKey 153 = .ok (.iconst 1, 1) := by decide +kernel
theorem dX13_commandKey_154 : decode cX13_commandKey 154 = .ok (.iadd, 1) := by decide +kernel
theorem dX13_commandKey_155 : decode cX13_commandKey 155 = .ok (.putfield 675, 3) := by decide +kernel
theorem dX13_commandKey_158 : decode cX13_commandKey 158 = .ok (.return_, 1) := by decide +kernel
theorem dX13_commandKey_159 : decode cX13_commandKey 159 = .ok (.aload_n 0, 1) := by decide +kernel
theorem dX13_commandKey_160 : decode cX13_commandKey 160 = .ok (.getfield 95, 3) := by decide +kernel
theorem dX13_commandKey_163 : decode cX13_commandKey 163 = .ok (.aload_n 0, 1) := by decide +kernel
theorem dX13_commandKey_164 : decode cX13_commandKey 164 = .ok (.getfield 609, 3) := by decide +kernel
theorem dX13_commandKey_167 : decode cX13_commandKey 167 = .ok (.iload_n 1, 1) := by decide +kernel
theorem dX13_commandKey_168 : decode cX13_commandKey 168 = .ok (.iastore, 1) := by decide +kernel
theorem dX13_commandKey_169 : decode cX13_commandKey 169 = .ok (.aload_n 0, 1) := by decide +kernel
theorem dX13_commandKey_170 : decode cX13_commandKey 170 = .ok (.dup, 1) := by decide +kernel
theorem dX13_commandKey_171 : decode cX13_commandKey 171 = .ok (.getfield 609, 3) := by decide +kernel
theorem dX13_commandKey_174 : decode cX13_commandKey 174 = .ok (.iconst 1, 1) := by decide +kernel
theorem dX13_commandKey_175 : decode cX13_commandKey 175 = .ok (.iadd, 1) := by decide +kernel
theorem dX13_commandKey_176 : decode cX13_commandKey 176 = .ok (.putfield 609, 3) := by decide +kernel
theorem dX13_commandKey_179 : decode cX13_commandKey 179 = .ok (.aload_n 0, 1) := by decide +kernel
theorem dX13_commandKey_180 : decode cX13_commandKey 180 = .ok (.invokevirtual 935, 3) := by decide +kernel
theorem dX13_commandKey_183 : decode cX13_commandKey 183 = .ok (.istore_n 2, 1) := by decide +kernel
theorem dX13_commandKey_184 : decode cX13_commandKey 184 = .ok (.aload_n 0, 1) := by decide +kernel
theorem dX13_commandKey_185 : decode cX13_commandKey 185 = .ok (.getfield 466, 3) := by decide +kernel
theorem dX13_commandKey_188 : decode cX13_commandKey 188 = .ok (.ifCond .ne 7, 3) := by decide +kernel
theorem dX13_commandKey_191 : decode cX13_commandKey 191 = .ok (.iconst 1, 1) := by decide +kernel
theorem dX13_commandKey_192 : decode cX13_commandKey 192 = .ok (.goto 4, 3) := by decide +kernel
theorem dX13_commandKey_195 : decode cX13_commandKey 195 = .ok (.iconst 0, 1) := by decide +kernel
theorem dX13_commandKey_196 : decode cX13_commandKey 196 = .ok (.istore_n 3, 1) := by decide +kernel
theorem dX13_commandKey_197 : decode cX13_commandKey 197 = .ok (.iload_n 2, 1) := by decide +kernel
theorem dX13_commandKey_198 : decode cX13_commandKey 198 = .ok (.iconst 1, 1) := by decide +kernel
theorem dX13_commandKey_199 : decode cX13_commandKey 199 = .ok (.if_icmp .eq 29, 3) := by decide +kernel
theorem dX13_commandKey_202 : decode cX13_commandKey 202 = .ok (.iload_n 2, 1) := by decide +kernel
theorem dX13_commandKey_203 : decode cX13_commandKey 203 = .ok (.iconst 2, 1) := by decide +kernel
theorem dX13_commandKey_204 : decode cX13_commandKey 204 = .ok (.if_icmp .ne 42, 3) := by decide +kernel
theorem dX13_commandKey_207 : decode cX13_commandKey 207 = .ok (.iload_n 3, 1) := by decide +kernel
theorem dX13_commandKey_208 : decode cX13_commandKey 208 = .ok (.ifCond .eq 13, 3) := by decide +kernel
theorem dX13_commandKey_211 : decode cX13_commandKey 211 = .ok (.aload_n 0, 1) := by decide +kernel
theorem dX13_commandKey_212 : decode cX13_commandKey 212 = .ok (.invokevirtual 938, 3) := by decide +kernel
theorem dX13_commandKey_215 : decode cX13_commandKey 215 = .ok (.ifCond .eq 13, 3) := by decide +kernel
theorem dX13_commandKey_218 : decode cX13_commandKey 218 = .ok (.goto 28, 3) := by decide +kernel
theorem dX13_commandKey_221 : decode cX13_commandKey 221 = .ok (.aload_n 0, 1) := by decide +kernel
theorem dX13_commandKey_222 : decode cX13_commandKey 222 = .ok (.invokevirtual 941, 3) := by decide +kernel
theorem dX13_commandKey_225 : decode cX13_commandKey 225 = .ok (.ifCond .ne 21, 3) := by decide +kernel
theorem dX13_commandKey_228 : decode cX13_commandKey 228 = .ok (.aload_n 0, 1) := by decide +kernel
theorem dX13_commandKey_229 : decode cX13_commandKey 229 = .ok (.invokevirtual 929, 3) := by decide +kernel
theorem dX13_commandKey_232 : decode cX13_commandKey 232 = .ok (.aload_n 0, 1) := by decide +kernel
theorem dX13_commandKey_233 : decode cX13_commandKey 233 = .ok (.invokevirtual 247, 3) := by decide +kernel
theorem dX13_commandKey_236 : decode cX13_commandKey 236 = .ok (.ifCond .ne 20, 3) := by decide +kernel
theorem dX13_commandKey_239 : decode cX13_commandKey 239 = .ok (.aload_n 0, 1) := by decide +kernel
theorem dX13_commandKey_240 : decode cX13_commandKey 240 = .ok (.invokevirtual 723, 3) := by decide +kernel
theorem dX13_commandKey_243 : decode cX13_commandKey 243 = .ok (.goto 13, 3) := by decide +kernel
theorem dX13_commandKey_246 : decode cX13_commandKey 246 = .ok (.iload_n 2, 1) := by decide +kernel
theorem dX13_commandKey_247 : decode cX13_commandKey 247 = .ok (.iconst 2, 1) := by decide +kernel
theorem dX13_commandKey_248 : decode cX13_commandKey 248 = .ok (.if_icmp .ne 8, 3) := by decide +kernel
theorem dX13_commandKey_251 : decode cX13_commandKey 251 = .ok (.aload_n 0, 1) := by decide +kernel
theorem dX13_commandKey_252 : decode cX13_commandKey 252 = .ok (.iload_n 3, 1) := by decide +kernel
theorem dX13_commandKey_253 : decode cX13_commandKey 253 = .ok (.invokevirtual 944, 3) := by decide +kernel
theorem dX13_commandKey_256 : decode cX13_commandKey 256 = .ok (.return_, 1) := by decide +kernel
theorem dX13_endsFrame_0 : decode cX13_endsFrame 0 = .ok (.aload_n 0, 1) := by decide +kernel
theorem dX13_endsFrame_1 : decode cX13_endsFrame 1 = .ok (.dup, 1) := by decide +kernel
theorem dX13_endsFrame_2 : decode cX13_endsFrame 2 = .ok (.getfield 672, 3) := by decide +kernel
theorem dX13_endsFrame_5 : decode cX13_endsFrame 5 = .ok (.iconst 1, 1) := by decide +kernel
theorem dX13_endsFrame_6 : decode cX13_endsFrame 6 = .ok (.isub, 1) := by decide +kernel
theorem dX13_endsFrame_7 : decode cX13_endsFrame 7 = .ok (.putfield 672, 3) := by decide +kernel
theorem dX13_endsFrame_10 : decode cX13_endsFrame 10 = .ok (.return_, 1) := by decide +kernel
theorem dX13_nextListed_0 : decode cX13_nextListed 0 = .ok (.iconst (-1), 1) := by decide +kernel
theorem dX13_nextListed_1 : decode cX13_nextListed 1 = .ok (.istore_n 2, 1) := by decide +kernel
theorem dX13_nextListed_2 : decode cX13_nextListed 2 = .ok (.iload_n 2, 1) := by decide +kernel
theorem dX13_nextListed_3 : decode cX13_nextListed 3 = .ok (.iconst (-1), 1) := by decide +kernel
theorem dX13_nextListed_4 : decode cX13_nextListed 4 = .ok (.if_icmp .ne 46, 3) := by decide +kernel
theorem dX13_nextListed_7 : decode cX13_nextListed 7 = .ok (.aload_n 0, 1) := by decide +kernel
theorem dX13_nextListed_8 : decode cX13_nextListed 8 = .ok (.getfield 138, 3) := by decide +kernel
theorem dX13_nextListed_11 : decode cX13_nextListed 11 = .ok (.iload_n 1, 1) := by decide +kernel
theorem dX13_nextListed_12 : decode cX13_nextListed 12 = .ok (.iaload, 1) := by decide +kernel
theorem dX13_nextListed_13 : decode cX13_nextListed 13 = .ok (.iconst 1, 1) := by decide +kernel
theorem dX13_nextListed_14 : decode cX13_nextListed 14 = .ok (.iadd, 1) := by decide +kernel
theorem dX13_nextListed_15 : decode cX13_nextListed 15 = .ok (.bipush 40, 2) := by decide +kernel
theorem dX13_nextListed_17 : decode cX13_nextListed 17 = .ok (.if_icmp .ge 33, 3) := by decide +kernel
theorem dX13_nextListed_20 : decode cX13_nextListed 20 = .ok (.aload_n 0, 1) := by decide +kernel
theorem dX13_nextListed_21 : decode cX13_nextListed 21 = .ok (.getfield 138, 3) := by decide +kernel
theorem dX13_nextListed_24 : decode cX13_nextListed 24 = .ok (.iload_n 1, 1) := by decide +kernel
theorem dX13_nextListed_25 : decode cX13_nextListed 25 = .ok (.dup2, 1) := by decide +kernel
theorem dX13_nextListed_26 : decode cX13_nextListed 26 = .ok (.iaload, 1) := by decide +kernel
theorem dX13_nextListed_27 : decode cX13_nextListed 27 = .ok (.iconst 1, 1) := by decide +kernel
theorem dX13_nextListed_28 : decode cX13_nextListed 28 = .ok (.iadd, 1) := by decide +kernel
theorem dX13_nextListed_29 : decode cX13_nextListed 29 = .ok (.iastore, 1) := by decide +kernel
theorem dX13_nextListed_30 : decode cX13_nextListed 30 = .ok (.aload_n 0, 1) := by decide +kernel
theorem dX13_nextListed_31 : decode cX13_nextListed 31 = .ok (.getfield 148, 3) := by decide +kernel
theorem dX13_nextListed_34 : decode cX13_nextListed 34 = .ok (.bipush 41, 2) := by decide +kernel
theorem dX13_nextListed_36 : decode cX13_nextListed 36 = .ok (.iload_n 1, 1) := by decide +kernel
theorem dX13_nextListed_37 : decode cX13_nextListed 37 = .ok (.imul, 1) := by decide +kernel
theorem dX13_nextListed_38 : decode cX13_nextListed 38 = .ok (.aload_n 0, 1) := by decide +kernel
theorem dX13_nextListed_39 : decode cX13_nextListed 39 = .ok (.getfield 138, 3) := by decide +kernel
theorem dX13_nextListed_42 : decode cX13_nextListed 42 = .ok (.iload_n 1, 1) := by decide +kernel
theorem dX13_nextListed_43 : decode cX13_nextListed 43 = .ok (.iaload, 1) := by decide +kernel
theorem dX13_nextListed_44 : decode cX13_nextListed 44 = .ok (.iadd, 1) := by decide +kernel
theorem dX13_nextListed_45 : decode cX13_nextListed 45 = .ok (.iaload, 1) := by decide +kernel
theorem dX13_nextListed_46 : decode cX13_nextListed 46 = .ok (.istore_n 2, 1) := by decide +kernel
theorem dX13_nextListed_47 : decode cX13_nextListed 47 = .ok (.goto (-45), 3) := by decide +kernel
theorem dX13_nextListed_50 : decode cX13_nextListed 50 = .ok (.iload_n 2, 1) := by decide +kernel
theorem dX13_nextListed_51 : decode cX13_nextListed 51 = .ok (.ireturn, 1) := by decide +kernel
theorem dX13_stepsMarked_0 : decode cX13_stepsMarked 0 = .ok (.aload_n 0, 1) := by decide +kernel
theorem dX13_stepsMarked_1 : decode cX13_stepsMarked 1 = .ok (.iload_n 1, 1) := by decide +kernel
theorem dX13_stepsMarked_2 : decode cX13_stepsMarked 2 = .ok (.invokevirtual 971, 3) := by decide +kernel
theorem dX13_stepsMarked_5 : decode cX13_stepsMarked 5 = .ok (.istore_n 2, 1) := by decide +kernel
theorem dX13_stepsMarked_6 : decode cX13_stepsMarked 6 = .ok (.iload_n 2, 1) := by decide +kernel
theorem dX13_stepsMarked_7 : decode cX13_stepsMarked 7 = .ok (.iconst (-1), 1) := by decide +kernel
theorem dX13_stepsMarked_8 : decode cX13_stepsMarked 8 = .ok (.if_icmp .ne 14, 3) := by decide +kernel
theorem dX13_stepsMarked_11 : decode cX13_stepsMarked 11 = .ok (.aload_n 0, 1) := by decide +kernel
theorem dX13_stepsMarked_12 : decode cX13_stepsMarked 12 = .ok (.dup, 1) := by decide +kernel
theorem dX13_stepsMarked_13 : decode cX13_stepsMarked 13 = .ok (.getfield 672, 3) := by decide +kernel
theorem dX13_stepsMarked_16 : decode cX13_stepsMarked 16 = .ok (.iconst 1, 1) := by decide +kernel
theorem dX13_stepsMarked_17 : decode cX13_stepsMarked 17 = .ok (.isub, 1) := by decide +kernel
theorem dX13_stepsMarked_18 : decode cX13_stepsMarked 18 = .ok (.putfield 672, 3) := by decide +kernel
theorem dX13_stepsMarked_21 : decode cX13_stepsMarked 21 = .ok (.return_, 1) := by decide +kernel
theorem dX13_stepsMarked_22 : decode cX13_stepsMarked 22 = .ok (.aload_n 0, 1) := by decide +kernel
theorem dX13_stepsMarked_23 : decode cX13_stepsMarked 23 = .ok (.iconst 0, 1) := by decide +kernel
theorem dX13_stepsMarked_24 : decode cX13_stepsMarked 24 = .ok (.putfield 861, 3) := by decide +kernel
theorem dX13_stepsMarked_27 : decode cX13_stepsMarked 27 = .ok (.aload_n 0, 1) := by decide +kernel
theorem dX13_stepsMarked_28 : decode cX13_stepsMarked 28 = .ok (.aload_n 0, 1) := by decide +kernel
theorem dX13_stepsMarked_29 : decode cX13_stepsMarked 29 = .ok (.getfield 129, 3) := by decide +kernel
theorem dX13_stepsMarked_32 : decode cX13_stepsMarked 32 = .ok (.iload_n 1, 1) := by decide +kernel
theorem dX13_stepsMarked_33 : decode cX13_stepsMarked 33 = .ok (.iaload, 1) := by decide +kernel
theorem dX13_stepsMarked_34 : decode cX13_stepsMarked 34 = .ok (.aload_n 0, 1) := by decide +kernel
theorem dX13_stepsMarked_35 : decode cX13_stepsMarked 35 = .ok (.getfield 126, 3) := by decide +kernel
theorem dX13_stepsMarked_38 : decode cX13_stepsMarked 38 = .ok (.iload_n 1, 1) := by decide +kernel
theorem dX13_stepsMarked_39 : decode cX13_stepsMarked 39 = .ok (.iaload, 1) := by decide +kernel
theorem dX13_stepsMarked_40 : decode cX13_stepsMarked 40 = .ok (.isub, 1) := by decide +kernel
theorem dX13_stepsMarked_41 : decode cX13_stepsMarked 41 = .ok (.putfield 858, 3) := by decide +kernel
theorem dX13_stepsMarked_44 : decode cX13_stepsMarked 44 = .ok (.iconst 0, 1) := by decide +kernel
theorem dX13_stepsMarked_45 : decode cX13_stepsMarked 45 = .ok (.istore_n 3, 1) := by decide +kernel
theorem dX13_stepsMarked_46 : decode cX13_stepsMarked 46 = .ok (.iload_n 3, 1) := by decide +kernel
theorem dX13_stepsMarked_47 : decode cX13_stepsMarked 47 = .ok (.aload_n 0, 1) := by decide +kernel
theorem dX13_stepsMarked_48 : decode cX13_stepsMarked 48 = .ok (.getfield 858, 3) := by decide +kernel
theorem dX13_stepsMarked_51 : decode cX13_stepsMarked 51 = .ok (.if_icmp .ge 28, 3) := by decide +kernel
theorem dX13_stepsMarked_54 : decode cX13_stepsMarked 54 = .ok (.aload_n 0, 1) := by decide +kernel
theorem dX13_stepsMarked_55 : decode cX13_stepsMarked 55 = .ok (.getfield 154, 3) := by decide +kernel
theorem dX13_stepsMarked_58 : decode cX13_stepsMarked 58 = .ok (.iload_n 3, 1) := by decide +kernel
theorem dX13_stepsMarked_59 : decode cX13_stepsMarked 59 = .ok (.aload_n 0, 1) := by decide +kernel
theorem dX13_stepsMarked_60 : decode cX13_stepsMarked 60 = .ok (.getfield 145, 3) := by decide +kernel
theorem dX13_stepsMarked_63 : decode cX13_stepsMarked 63 = .ok (.aload_n 0, 1) := by decide +kernel
theorem dX13_stepsMarked_64 : decode cX13_stepsMarked 64 = .ok (.getfield 126, 3) := by decide +kernel
theorem dX13_stepsMarked_67 : decode cX13_stepsMarked 67 = .ok (.iload_n 1, 1) := by decide +kernel
theorem dX13_stepsMarked_68 : decode cX13_stepsMarked 68 = .ok (.iaload, 1) := by decide +kernel
theorem dX13_stepsMarked_69 : decode cX13_stepsMarked 69 = .ok (.iload_n 3, 1) := by decide +kernel
theorem dX13_stepsMarked_70 : decode cX13_stepsMarked 70 = .ok (.iadd, 1) := by decide +kernel
theorem dX13_stepsMarked_71 : decode cX13_stepsMarked 71 = .ok (.iaload, 1) := by decide +kernel
theorem dX13_stepsMarked_72 : decode cX13_stepsMarked 72 = .ok (.iastore, 1) := by decide +kernel
theorem dX13_stepsMarked_73 : decode cX13_stepsMarked 73 = .ok (.iinc 3 1, 3) := by decide +kernel
theorem dX13_stepsMarked_76 : decode cX13_stepsMarked 76 = .ok (.goto (-30), 3) := by decide +kernel
theorem dX13_stepsMarked_79 : decode cX13_stepsMarked 79 = .ok (.aload_n 0, 1) := by decide +kernel
theorem dX13_stepsMarked_80 : decode cX13_stepsMarked 80 = .ok (.iload_n 2, 1) := by decide +kernel
theorem dX13_stepsMarked_81 : decode cX13_stepsMarked 81 = .ok (.putfield 870, 3) := by decide +kernel
theorem dX13_stepsMarked_84 : decode cX13_stepsMarked 84 = .ok (.aload_n 0, 1) := by decide +kernel
theorem dX13_stepsMarked_85 : decode cX13_stepsMarked 85 = .ok (.iload_n 2, 1) := by decide +kernel
theorem dX13_stepsMarked_86 : decode cX13_stepsMarked 86 = .ok (.putfield 873, 3) := by decide +kernel
theorem dX13_stepsMarked_89 : decode cX13_stepsMarked 89 = .ok (.aload_n 0, 1) := by decide +kernel
theorem dX13_stepsMarked_90 : decode cX13_stepsMarked 90 = .ok (.invokevirtual 923, 3) := by decide +kernel
theorem dX13_stepsMarked_93 : decode cX13_stepsMarked 93 = .ok (.ifCond .ne 7, 3) := by decide +kernel
theorem dX13_stepsMarked_96 : decode cX13_stepsMarked 96 = .ok (.aload_n 0, 1) := by decide +kernel
theorem dX13_stepsMarked_97 : decode cX13_stepsMarked 97 = .ok (.invokevirtual 929, 3) := by decide +kernel
theorem dX13_stepsMarked_100 : decode cX13_stepsMarked 100 = .ok (.aload_n 0, 1) := by decide +kernel
theorem dX13_stepsMarked_101 : decode cX13_stepsMarked 101 = .ok (.invokevirtual 723, 3) := by decide +kernel
theorem dX13_stepsMarked_104 : decode cX13_stepsMarked 104 = .ok (.return_, 1) := by decide +kernel
theorem dX13_orders_0 : decode cX13_orders 0 = .ok (.iconst 0, 1) := by decide +kernel
theorem dX13_orders_1 : decode cX13_orders 1 = .ok (.istore_n 1, 1) := by decide +kernel
theorem dX13_orders_2 : decode cX13_orders 2 = .ok (.iconst 0, 1) := by decide +kernel
theorem dX13_orders_3 : decode cX13_orders 3 = .ok (.istore_n 2, 1) := by decide +kernel
theorem dX13_orders_4 : decode cX13_orders 4 = .ok (.iload_n 2, 1) := by decide +kernel
theorem dX13_orders_5 : decode cX13_orders 5 = .ok (.aload_n 0, 1) := by decide +kernel
theorem dX13_orders_6 : decode cX13_orders 6 = .ok (.getfield 244, 3) := by decide +kernel
theorem dX13_orders_9 : decode cX13_orders 9 = .ok (.if_icmp .ge 280, 3) := by decide +kernel
theorem dX13_orders_12 : decode cX13_orders 12 = .ok (.aload_n 0, 1) := by decide +kernel
theorem dX13_orders_13 : decode cX13_orders 13 = .ok (.getfield 57, 3) := by decide +kernel
theorem dX13_orders_16 : decode cX13_orders 16 = .ok (.iload_n 2, 1) := by decide +kernel
theorem dX13_orders_17 : decode cX13_orders 17 = .ok (.aload_n 0, 1) := by decide +kernel
theorem dX13_orders_18 : decode cX13_orders 18 = .ok (.getfield 54, 3) := by decide +kernel
theorem dX13_orders_21 : decode cX13_orders 21 = .ok (.iload_n 2, 1) := by decide +kernel
theorem dX13_orders_22 : decode cX13_orders 22 = .ok (.iaload, 1) := by decide +kernel
theorem dX13_orders_23 : decode cX13_orders 23 = .ok (.iconst (-1), 1) := by decide +kernel
theorem dX13_orders_24 : decode cX13_orders 24 = .ok (.if_icmp .ne 7, 3) := by decide +kernel
theorem dX13_orders_27 : decode cX13_orders 27 = .ok (.iconst 0, 1) := by decide +kernel
theorem dX13_orders_28 : decode cX13_orders 28 = .ok (.goto 22, 3) := by decide +kernel
theorem dX13_orders_31 : decode cX13_orders 31 = .ok (.aload_n 0, 1) := by decide +kernel
theorem dX13_orders_32 : decode cX13_orders 32 = .ok (.getfield 57, 3) := by decide +kernel
theorem dX13_orders_35 : decode cX13_orders 35 = .ok (.iload_n 2, 1) := by decide +kernel
theorem dX13_orders_36 : decode cX13_orders 36 = .ok (.iaload, 1) := by decide +kernel
theorem dX13_orders_37 : decode cX13_orders 37 = .ok (.aload_n 0, 1) := by decide +kernel
theorem dX13_orders_38 : decode cX13_orders 38 = .ok (.aload_n 0, 1) := by decide +kernel
theorem dX13_orders_39 : decode cX13_orders 39 = .ok (.getfield 54, 3) := by decide +kernel
theorem dX13_orders_42 : decode cX13_orders 42 = .ok (.iload_n 2, 1) := by decide +kernel
theorem dX13_orders_43 : decode cX13_orders 43 = .ok (.iaload, 1) := by decide +kernel
theorem dX13_orders_44 : decode cX13_orders 44 = .ok (.invokevirtual 309, 3) := by decide +kernel
theorem dX13_orders_47 : decode cX13_orders 47 = .ok (.invokestatic 257, 3) := by decide +kernel
theorem dX13_orders_50 : decode cX13_orders 50 = .ok (.iastore, 1) := by decide +kernel
theorem dX13_orders_51 : decode cX13_orders 51 = .ok (.aload_n 0, 1) := by decide +kernel
theorem dX13_orders_52 : decode cX13_orders 52 = .ok (.getfield 54, 3) := by decide +kernel
theorem dX13_orders_55 : decode cX13_orders 55 = .ok (.iload_n 2, 1) := by decide +kernel
theorem dX13_orders_56 : decode cX13_orders 56 = .ok (.iaload, 1) := by decide +kernel
theorem dX13_orders_57 : decode cX13_orders 57 = .ok (.iconst (-1), 1) := by decide +kernel
theorem dX13_orders_58 : decode cX13_orders 58 = .ok (.if_icmp .eq 33, 3) := by decide +kernel
theorem dX13_orders_61 : decode cX13_orders 61 = .ok (.aload_n 0, 1) := by decide +kernel
theorem dX13_orders_62 : decode cX13_orders 62 = .ok (.getfield 54, 3) := by decide +kernel
theorem dX13_orders_65 : decode cX13_orders 65 = .ok (.iload_n 2, 1) := by decide +kernel
theorem dX13_orders_66 : decode cX13_orders 66 = .ok (.iaload, 1) := by decide +kernel
theorem dX13_orders_67 : decode cX13_orders 67 = .ok (.aload_n 0, 1) := by decide +kernel
theorem dX13_orders_68 : decode cX13_orders 68 = .ok (.getfield 213, 3) := by decide +kernel
theorem dX13_orders_71 : decode cX13_orders 71 = .ok (.if_icmp .ne 16, 3) := by decide +kernel
theorem dX13_orders_74 : decode cX13_orders 74 = .ok (.aload_n 0, 1) := by decide +kernel
theorem dX13_orders_75 : decode cX13_orders 75 = .ok (.getfield 57, 3) := by decide +kernel
theorem dX13_orders_78 : decode cX13_orders 78 = .ok (.iload_n 2, 1) := by decide +kernel
theorem dX13_orders_79 : decode cX13_orders 79 = .ok (.iaload, 1) := by decide +kernel
theorem dX13_orders_80 : decode cX13_orders 80 = .ok (.aload_n 0, 1) := by decide +kernel
theorem dX13_orders_81 : decode cX13_orders 81 = .ok (.getfield 216, 3) := by decide +kernel
theorem dX13_orders_84 : decode cX13_orders 84 = .ok (.if_icmp .eq 7, 3) := by decide +kernel
theorem dX13_orders_87 : decode cX13_orders 87 = .ok (.iconst 1, 1) := by decide +kernel
theorem dX13_orders_88 : decode cX13_orders 88 = .ok (.goto 4, 3) := by decide +kernel
theorem dX13_orders_91 : decode cX13_orders 91 = .ok (.iconst 0, 1) := by decide +kernel
theorem dX13_orders_92 : decode cX13_orders 92 = .ok (.istore_n 3, 1) := by decide +kernel
theorem dX13_orders_93 : decode cX13_orders 93 = .ok (.iconst 0, 1) := by decide +kernel
theorem dX13_orders_94 : decode cX13_orders 94 = .ok (.istore 4, 2) := by decide +kernel
theorem dX13_orders_96 : decode cX13_orders 96 = .ok (.iload 4, 2) := by decide +kernel
theorem dX13_orders_98 : decode cX13_orders 98 = .ok (.iload_n 1, 1) := by decide +kernel
theorem dX13_orders_99 : decode cX13_orders 99 = .ok (.if_icmp .ge 51, 3) := by decide +kernel
theorem dX13_orders_102 : decode cX13_orders 102 = .ok (.iload_n 3, 1) := by decide +kernel
theorem dX13_orders_103 : decode cX13_orders 103 = .ok (.ifCond .eq 47, 3) := by decide +kernel
theorem dX13_orders_106 : decode cX13_orders 106 = .ok (.aload_n 0, 1) := by decide +kernel
theorem dX13_orders_107 : decode cX13_orders 107 = .ok (.getfield 54, 3) := by decide +kernel
theorem dX13_orders_110 : decode cX13_orders 110 = .ok (.iload 4, 2) := by decide +kernel
theorem dX13_orders_112 : decode cX13_orders 112 = .ok (.iaload, 1) := by decide +kernel
theorem dX13_orders_113 : decode cX13_orders 113 = .ok (.aload_n 0, 1) := by decide +kernel
theorem dX13_orders_114 : decode cX13_orders 114 = .ok (.getfield 54, 3) := by decide +kernel
theorem dX13_orders_117 : decode cX13_orders 117 = .ok (.iload_n 2, 1) := by decide +kernel
theorem dX13_orders_118 : decode cX13_orders 118 = .ok (.iaload, 1) := by decide +kernel
theorem dX13_orders_119 : decode cX13_orders 119 = .ok (.if_icmp .ne 19, 3) := by decide +kernel
theorem dX13_orders_122 : decode cX13_orders 122 = .ok (.aload_n 0, 1) := by decide +kernel
theorem dX13_orders_123 : decode cX13_orders 123 = .ok (.getfield 57, 3) := by decide +kernel
theorem dX13_orders_126 : decode cX13_orders 126 = .ok (.iload 4, 2) := by decide +kernel
theorem dX13_orders_128 : decode cX13_orders 128 = .ok (.iaload, 1) := by decide +kernel
theorem dX13_orders_129 : decode cX13_orders 129 = .ok (.aload_n 0, 1) := by decide +kernel
theorem dX13_orders_130 : decode cX13_orders 130 = .ok (.getfield 57, 3) := by decide +kernel
theorem dX13_orders_133 : decode cX13_orders 133 = .ok (.iload_n 2, 1) := by decide +kernel
theorem dX13_orders_134 : decode cX13_orders 134 = .ok (.iaload, 1) := by decide +kernel
theorem dX13_orders_135 : decode cX13_orders 135 = .ok (.if_icmp .eq 7, 3) := by decide +kernel
theorem dX13_orders_138 : decode cX13_orders 138 = .ok (.iconst 1, 1) := by decide +kernel
theorem dX13_orders_139 : decode cX13_orders 139 = .ok (.goto 4, 3) := by decide +kernel
theorem dX13_orders_142 : decode cX13_orders 142 = .ok (.iconst 0, 1) := by decide +kernel
theorem dX13_orders_143 : decode cX13_orders 143 = .ok (.istore_n 3, 1) := by decide +kernel
theorem dX13_orders_144 : decode cX13_orders 144 = .ok (.iinc 4 1, 3) := by decide +kernel
theorem dX13_orders_147 : decode cX13_orders 147 = .ok (.goto (-51), 3) := by decide +kernel
theorem dX13_orders_150 : decode cX13_orders 150 = .ok (.iload_n 1, 1) := by decide +kernel
theorem dX13_orders_151 : decode cX13_orders 151 = .ok (.istore 4, 2) := by decide +kernel
theorem dX13_orders_153 : decode cX13_orders 153 = .ok (.aload_n 0, 1) := by decide +kernel
theorem dX13_orders_154 : decode cX13_orders 154 = .ok (.getfield 54, 3) := by decide +kernel
theorem dX13_orders_157 : decode cX13_orders 157 = .ok (.iload_n 2, 1) := by decide +kernel
theorem dX13_orders_158 : decode cX13_orders 158 = .ok (.iaload, 1) := by decide +kernel
theorem dX13_orders_159 : decode cX13_orders 159 = .ok (.istore 5, 2) := by decide +kernel
theorem dX13_orders_161 : decode cX13_orders 161 = .ok (.aload_n 0, 1) := by decide +kernel
theorem dX13_orders_162 : decode cX13_orders 162 = .ok (.getfield 57, 3) := by decide +kernel
theorem dX13_orders_165 : decode cX13_orders 165 = .ok (.iload_n 2, 1) := by decide +kernel
theorem dX13_orders_166 : decode cX13_orders 166 = .ok (.iaload, 1) := by decide +kernel
theorem dX13_orders_167 : decode cX13_orders 167 = .ok (.istore 6, 2) := by decide +kernel
theorem dX13_orders_169 : decode cX13_orders 169 = .ok (.iload_n 3, 1) := by decide +kernel
theorem dX13_orders_170 : decode cX13_orders 170 = .ok (.ifCond .eq 88, 3) := by decide +kernel
theorem dX13_orders_173 : decode cX13_orders 173 = .ok (.iload 4, 2) := by decide +kernel
theorem dX13_orders_175 : decode cX13_orders 175 = .ok (.ifCond .le 83, 3) := by decide +kernel
theorem dX13_orders_178 : decode cX13_orders 178 = .ok (.aload_n 0, 1) := by decide +kernel
theorem dX13_orders_179 : decode cX13_orders 179 = .ok (.getfield 54, 3) := by decide +kernel
theorem dX13_orders_182 : decode cX13_orders 182 = .ok (.iload 4, 2) := by decide +kernel
theorem dX13_orders_184 : decode cX13_orders 184 = .ok (.iconst 1, 1) := by decide +kernel
theorem dX13_orders_185 : decode cX13_orders 185 = .ok (.isub, 1) := by decide +kernel
theorem dX13_orders_186 : decode cX13_orders 186 = .ok (.iaload, 1) := by decide +kernel
theorem dX13_orders_187 : decode cX13_orders 187 = .ok (.iload 5, 2) := by decide +kernel
theorem dX13_orders_189 : decode cX13_orders 189 = .ok (.if_icmp .gt 31, 3) := by decide +kernel
theorem dX13_orders_192 : decode cX13_orders 192 = .ok (.aload_n 0, 1) := by decide +kernel
theorem dX13_orders_193 : decode cX13_orders 193 = .ok (.getfield 54, 3) := by decide +kernel
theorem dX13_orders_196 : decode cX13_orders 196 = .ok (.iload 4, 2) := by decide +kernel
theorem dX13_orders_198 : decode cX13_orders 198 = .ok (.iconst 1, 1) := by decide +kernel
theorem dX13_orders_199 : decode cX13_orders 199 = .ok (.isub, 1) := by decide +kernel
theorem dX13_orders_200 : decode cX13_orders 200 = .ok (.iaload, 1) := by decide +kernel
theorem dX13_orders_201 : decode cX13_orders 201 = .ok (.iload 5, 2) := by decide +kernel
theorem dX13_orders_203 : decode cX13_orders 203 = .ok (.if_icmp .ne 55, 3) := by decide +kernel
theorem dX13_orders_206 : decode cX13_orders 206 = .ok (.aload_n 0, 1) := by decide +kernel
theorem dX13_orders_207 : decode cX13_orders 207 = .ok (.getfield 57, 3) := by decide +kernel
theorem dX13_orders_210 : decode cX13_orders 210 = .ok (.iload 4, 2) := by decide +kernel
theorem dX13_orders_212 : decode cX13_orders 212 = .ok (.iconst 1, 1) := by decide +kernel
theorem dX13_orders_213 : decode cX13_orders 213 = .ok (.isub, 1) := by decide +kernel
theorem dX13_orders_214 : decode cX13_orders 214 = .ok (.iaload, 1) := by decide +kernel
theorem dX13_orders_215 : decode cX13_orders 215 = .ok (.iload 6, 2) := by decide +kernel
theorem dX13_orders_217 : decode cX13_orders 217 = .ok (.if_icmp .le 41, 3) := by decide +kernel
theorem dX13_orders_220 : decode cX13_orders 220 = .ok (.aload_n 0, 1) := by decide +kernel
theorem dX13_orders_221 : decode cX13_orders 221 = .ok (.getfield 54, 3) := by decide +kernel
theorem dX13_orders_224 : decode cX13_orders 224 = .ok (.iload 4, 2) := by decide +kernel
theorem dX13_orders_226 : decode cX13_orders 226 = .ok (.aload_n 0, 1) := by decide +kernel
theorem dX13_orders_227 : decode cX13_orders 227 = .ok (.getfield 54, 3) := by decide +kernel
theorem dX13_orders_230 : decode cX13_orders 230 = .ok (.iload 4, 2) := by decide +kernel
theorem dX13_orders_232 : decode cX13_orders 232 = .ok (.iconst 1, 1) := by decide +kernel
theorem dX13_orders_233 : decode cX13_orders 233 = .ok (.isub, 1) := by decide +kernel
theorem dX13_orders_234 : decode cX13_orders 234 = .ok (.iaload, 1) := by decide +kernel
theorem dX13_orders_235 : decode cX13_orders 235 = .ok (.iastore, 1) := by decide +kernel
theorem dX13_orders_236 : decode cX13_orders 236 = .ok (.aload_n 0, 1) := by decide +kernel
theorem dX13_orders_237 : decode cX13_orders 237 = .ok (.getfield 57, 3) := by decide +kernel
theorem dX13_orders_240 : decode cX13_orders 240 = .ok (.iload 4, 2) := by decide +kernel
theorem dX13_orders_242 : decode cX13_orders 242 = .ok (.aload_n 0, 1) := by decide +kernel
theorem dX13_orders_243 : decode cX13_orders 243 = .ok (.getfield 57, 3) := by decide +kernel
theorem dX13_orders_246 : decode cX13_orders 246 = .ok (.iload 4, 2) := by decide +kernel
theorem dX13_orders_248 : decode cX13_orders 248 = .ok (.iconst 1, 1) := by decide +kernel
theorem dX13_orders_249 : decode cX13_orders 249 = .ok (.isub, 1) := by decide +kernel
theorem dX13_orders_250 : decode cX13_orders 250 = .ok (.iaload, 1) := by decide +kernel
theorem dX13_orders_251 : decode cX13_orders 251 = .ok (.iastore, 1) := by decide +kernel
theorem dX13_orders_252 : decode cX13_orders 252 = .ok (.iinc 4 (-1), 3) := by decide +kernel
theorem dX13_orders_255 : decode cX13_orders 255 = .ok (.goto (-86), 3) := by decide +kernel
theorem dX13_orders_258 : decode cX13_orders 258 = .ok (.iload_n 3, 1) := by decide +kernel
theorem dX13_orders_259 : decode cX13_orders 259 = .ok (.ifCond .eq 24, 3) := by decide +kernel
theorem dX13_orders_262 : decode cX13_orders 262 = .ok (.aload_n 0, 1) := by decide +kernel
theorem dX13_orders_263 : decode cX13_orders 263 = .ok (.getfield 54, 3) := by decide +kernel
theorem dX13_orders_266 : decode cX13_orders 266 = .ok (.iload 4, 2) := by decide +kernel
theorem dX13_orders_268 : decode cX13_orders 268 = .ok (.iload 5, 2) := by decide +kernel
theorem dX13_orders_270 : decode cX13_orders 270 = .ok (.iastore, 1) := by decide +kernel
theorem dX13_orders_271 : decode cX13_orders 271 = .ok (.aload_n 0, 1) := by decide +kernel
theorem dX13_orders_272 : decode cX13_orders 272 = .ok (.getfield 57, 3) := by decide +kernel
theorem dX13_orders_275 : decode cX13_orders 275 = .ok (.iload 4, 2) := by decide +kernel
theorem dX13_orders_277 : decode cX13_orders 277 = .ok (.iload 6, 2) := by decide +kernel
theorem dX13_orders_279 : decode cX13_orders 279 = .ok (.iastore, 1) := by decide +kernel
theorem dX13_orders_280 : decode cX13_orders 280 = .ok (.iinc 1 1, 3) := by decide +kernel
theorem dX13_orders_283 : decode cX13_orders 283 = .ok (.iinc 2 1, 3) := by decide +kernel
theorem dX13_orders_286 : decode cX13_orders 286 = .ok (.goto (-282), 3) := by decide +kernel
theorem dX13_orders_289 : decode cX13_orders 289 = .ok (.aload_n 0, 1) := by decide +kernel
theorem dX13_orders_290 : decode cX13_orders 290 = .ok (.iload_n 1, 1) := by decide +kernel
theorem dX13_orders_291 : decode cX13_orders 291 = .ok (.putfield 244, 3) := by decide +kernel
theorem dX13_orders_294 : decode cX13_orders 294 = .ok (.return_, 1) := by decide +kernel
theorem dX13_dropsMapped_0 : decode cX13_dropsMapped 0 = .ok (.iconst 0, 1) := by decide +kernel
theorem dX13_dropsMapped_1 : decode cX13_dropsMapped 1 = .ok (.istore_n 1, 1) := by decide +kernel
theorem dX13_dropsMapped_2 : decode cX13_dropsMapped 2 = .ok (.iconst 0, 1) := by decide +kernel
theorem dX13_dropsMapped_3 : decode cX13_dropsMapped 3 = .ok (.istore_n 2, 1) := by decide +kernel
theorem dX13_dropsMapped_4 : decode cX13_dropsMapped 4 = .ok (.iload_n 2, 1) := by decide +kernel
theorem dX13_dropsMapped_5 : decode cX13_dropsMapped 5 = .ok (.aload_n 0, 1) := by decide +kernel
theorem dX13_dropsMapped_6 : decode cX13_dropsMapped 6 = .ok (.getfield 998, 3) := by decide +kernel
theorem dX13_dropsMapped_9 : decode cX13_dropsMapped 9 = .ok (.if_icmp .ge 52, 3) := by decide +kernel
theorem dX13_dropsMapped_12 : decode cX13_dropsMapped 12 = .ok (.aload_n 0, 1) := by decide +kernel
theorem dX13_dropsMapped_13 : decode cX13_dropsMapped 13 = .ok (.getfield 185, 3) := by decide +kernel
theorem dX13_dropsMapped_16 : decode cX13_dropsMapped 16 = .ok (.iload_n 2, 1) := by decide +kernel
theorem dX13_dropsMapped_17 : decode cX13_dropsMapped 17 = .ok (.baload, 1) := by decide +kernel
theorem dX13_dropsMapped_18 : decode cX13_dropsMapped 18 = .ok (.ifCond .ne 37, 3) := by decide +kernel
theorem dX13_dropsMapped_21 : decode cX13_dropsMapped 21 = .ok (.aload_n 0, 1) := by decide +kernel
theorem dX13_dropsMapped_22 : decode cX13_dropsMapped 22 = .ok (.getfield 182, 3) := by decide +kernel
theorem dX13_dropsMapped_25 : decode cX13_dropsMapped 25 = .ok (.iload_n 1, 1) := by decide +kernel
theorem dX13_dropsMapped_26 : decode cX13_dropsMapped 26 = .ok (.aload_n 0, 1) := by decide +kernel
theorem dX13_dropsMapped_27 : decode cX13_dropsMapped 27 = .ok (.getfield 182, 3) := by decide +kernel
theorem dX13_dropsMapped_30 : decode cX13_dropsMapped 30 = .ok (.iload_n 2, 1) := by decide +kernel
theorem dX13_dropsMapped_31 : decode cX13_dropsMapped 31 = .ok (.iaload, 1) := by decide +kernel
theorem dX13_dropsMapped_32 : decode cX13_dropsMapped 32 = .ok (.iastore, 1) := by decide +kernel
theorem dX13_dropsMapped_33 : decode cX13_dropsMapped 33 = .ok (.aload_n 0, 1) := by decide +kernel
theorem dX13_dropsMapped_34 : decode cX13_dropsMapped 34 = .ok (.getfield 185, 3) := by decide +kernel
theorem dX13_dropsMapped_37 : decode cX13_dropsMapped 37 = .ok (.iload_n 1, 1) := by decide +kernel
theorem dX13_dropsMapped_38 : decode cX13_dropsMapped 38 = .ok (.iconst 0, 1) := by decide +kernel
theorem dX13_dropsMapped_39 : decode cX13_dropsMapped 39 = .ok (.bastore, 1) := by decide +kernel
theorem dX13_dropsMapped_40 : decode cX13_dropsMapped 40 = .ok (.aload_n 0, 1) := by decide +kernel
theorem dX13_dropsMapped_41 : decode cX13_dropsMapped 41 = .ok (.getfield 188, 3) := by decide +kernel
theorem dX13_dropsMapped_44 : decode cX13_dropsMapped 44 = .ok (.iload_n 1, 1) := by decide +kernel
theorem dX13_dropsMapped_45 : decode cX13_dropsMapped 45 = .ok (.aload_n 0, 1) := by decide +kernel
theorem dX13_dropsMapped_46 : decode cX13_dropsMapped 46 = .ok (.getfield 188, 3) := by decide +kernel
theorem dX13_dropsMapped_49 : decode cX13_dropsMapped 49 = .ok (.iload_n 2, 1) := by decide +kernel
theorem dX13_dropsMapped_50 : decode cX13_dropsMapped 50 = .ok (.baload, 1) := by decide +kernel
theorem dX13_dropsMapped_51 : decode cX13_dropsMapped 51 = .ok (.bastore, 1) := by decide +kernel
theorem dX13_dropsMapped_52 : decode cX13_dropsMapped 52 = .ok (.iinc 1 1, 3) := by decide +kernel
theorem dX13_dropsMapped_55 : decode cX13_dropsMapped 55 = .ok (.iinc 2 1, 3) := by decide +kernel
theorem dX13_dropsMapped_58 : decode cX13_dropsMapped 58 = .ok (.goto (-54), 3) := by decide +kernel
theorem dX13_dropsMapped_61 : decode cX13_dropsMapped 61 = .ok (.aload_n 0, 1) := by decide +kernel
theorem dX13_dropsMapped_62 : decode cX13_dropsMapped 62 = .ok (.iload_n 1, 1) := by decide +kernel
theorem dX13_dropsMapped_63 : decode cX13_dropsMapped 63 = .ok (.putfield 998, 3) := by decide +kernel
theorem dX13_dropsMapped_66 : decode cX13_dropsMapped 66 = .ok (.return_, 1) := by decide +kernel
theorem dX13_beginsMap_0 : decode cX13_beginsMap 0 = .ok (.aload_n 0, 1) := by decide +kernel
theorem dX13_beginsMap_1 : decode cX13_beginsMap 1 = .ok (.getfield 166, 3) := by decide +kernel
theorem dX13_beginsMap_4 : decode cX13_beginsMap 4 = .ok (.iload_n 1, 1) := by decide +kernel
theorem dX13_beginsMap_5 : decode cX13_beginsMap 5 = .ok (.iaload, 1) := by decide +kernel
theorem dX13_beginsMap_6 : decode cX13_beginsMap 6 = .ok (.aload_n 0, 1) := by decide +kernel
theorem dX13_beginsMap_7 : decode cX13_beginsMap 7 = .ok (.invokevirtual 1003, 3) := by decide +kernel
theorem dX13_beginsMap_10 : decode cX13_beginsMap 10 = .ok (.if_icmp .ne 17, 3) := by decide +kernel
theorem dX13_beginsMap_13 : decode cX13_beginsMap 13 = .ok (.aload_n 0, 1) := by decide +kernel
theorem dX13_beginsMap_14 : decode cX13_beginsMap 14 = .ok (.getfield 169, 3) := by decide +kernel
theorem dX13_beginsMap_17 : decode cX13_beginsMap 17 = .ok (.iload_n 1, 1) := by decide +kernel
theorem dX13_beginsMap_18 : decode cX13_beginsMap 18 = .ok (.iaload, 1) := by decide +kernel
theorem dX13_beginsMap_19 : decode cX13_beginsMap 19 = .ok (.iload_n 2, 1) := by decide +kernel
theorem dX13_beginsMap_20 : decode cX13_beginsMap 20 = .ok (.if_icmp .lt 7, 3) := by decide +kernel
theorem dX13_beginsMap_23 : decode cX13_beginsMap 23 = .ok (.iconst 1, 1) := by decide +kernel
theorem dX13_beginsMap_24 : decode cX13_beginsMap 24 = .ok (.goto 4, 3) := by decide +kernel
theorem dX13_beginsMap_27 : decode cX13_beginsMap 27 = .ok (.iconst 0, 1) := by decide +kernel
theorem dX13_beginsMap_28 : decode cX13_beginsMap 28 = .ok (.istore_n 3, 1) := by decide +kernel
theorem dX13_beginsMap_29 : decode cX13_beginsMap 29 = .ok (.iconst 0, 1) := by decide +kernel
theorem dX13_beginsMap_30 : decode cX13_beginsMap 30 = .ok (.istore 4, 2) := by decide +kernel
theorem dX13_beginsMap_32 : decode cX13_beginsMap 32 = .ok (.iload 4, 2) := by decide +kernel
theorem dX13_beginsMap_34 : decode cX13_beginsMap 34 = .ok (.iload_n 2, 1) := by decide +kernel
theorem dX13_beginsMap_35 : decode cX13_beginsMap 35 = .ok (.if_icmp .ge 50, 3) := by decide +kernel
theorem dX13_beginsMap_38 : decode cX13_beginsMap 38 = .ok (.iload_n 3, 1) := by decide +kernel
theorem dX13_beginsMap_39 : decode cX13_beginsMap 39 = .ok (.ifCond .eq 46, 3) := by decide +kernel
theorem dX13_beginsMap_42 : decode cX13_beginsMap 42 = .ok (.aload_n 0, 1) := by decide +kernel
theorem dX13_beginsMap_43 : decode cX13_beginsMap 43 = .ok (.getfield 172, 3) := by decide +kernel
theorem dX13_beginsMap_46 : decode cX13_beginsMap 46 = .ok (.iconst 4, 1) := by decide +kernel
theorem dX13_beginsMap_47 : decode cX13_beginsMap 47 = .ok (.iload_n 1, 1) := by decide +kernel
theorem dX13_beginsMap_48 : decode cX13_beginsMap 48 = .ok (.imul, 1) := by decide +kernel
theorem dX13_beginsMap_49 : decode cX13_beginsMap 49 = .ok (.iload 4, 2) := by decide +kernel
theorem dX13_beginsMap_51 : decode cX13_beginsMap 51 = .ok (.iadd, 1) := by decide +kernel
theorem dX13_beginsMap_52 : decode cX13_beginsMap 52 = .ok (.iaload, 1) := by decide +kernel
theorem dX13_beginsMap_53 : decode cX13_beginsMap 53 = .ok (.aload_n 0, 1) := by decide +kernel
theorem dX13_beginsMap_54 : decode cX13_beginsMap 54 = .ok (.getfield 182, 3) := by decide +kernel
theorem dX13_beginsMap_57 : decode cX13_beginsMap 57 = .ok (.iload 4, 2) := by decide +kernel
theorem dX13_beginsMap_59 : decode cX13_beginsMap 59 = .ok (.iaload, 1) := by decide +kernel
theorem dX13_beginsMap_60 : decode cX13_beginsMap 60 = .ok (.if_icmp .ne 17, 3) := by decide +kernel
theorem dX13_beginsMap_63 : decode cX13_beginsMap 63 = .ok (.aload_n 0, 1) := by decide +kernel
theorem dX13_beginsMap_64 : decode cX13_beginsMap 64 = .ok (.getfield 188, 3) := by decide +kernel
theorem dX13_beginsMap_67 : decode cX13_beginsMap 67 = .ok (.iload 4, 2) := by decide +kernel
theorem dX13_beginsMap_69 : decode cX13_beginsMap 69 = .ok (.baload, 1) := by decide +kernel
theorem dX13_beginsMap_70 : decode cX13_beginsMap 70 = .ok (.ifCond .eq 7, 3) := by decide +kernel
theorem dX13_beginsMap_73 : decode cX13_beginsMap 73 = .ok (.iconst 1, 1) := by decide +kernel
theorem dX13_beginsMap_74 : decode cX13_beginsMap 74 = .ok (.goto 4, 3) := by decide +kernel
theorem dX13_beginsMap_77 : decode cX13_beginsMap 77 = .ok (.iconst 0, 1) := by decide +kernel
theorem dX13_beginsMap_78 : decode cX13_beginsMap 78 = .ok (.istore_n 3, 1) := by decide +kernel
theorem dX13_beginsMap_79 : decode cX13_beginsMap 79 = .ok (.iinc 4 1, 3) := by decide +kernel
theorem dX13_beginsMap_82 : decode cX13_beginsMap 82 = .ok (.goto (-50), 3) := by decide +kernel
theorem dX13_beginsMap_85 : decode cX13_beginsMap 85 = .ok (.iload_n 3, 1) := by decide +kernel
theorem dX13_beginsMap_86 : decode cX13_beginsMap 86 = .ok (.ireturn, 1) := by decide +kernel
theorem dX13_mapsFor_0 : decode cX13_mapsFor 0 = .ok (.aload_n 0, 1) := by decide +kernel
theorem dX13_mapsFor_1 : decode cX13_mapsFor 1 = .ok (.getfield 466, 3) := by decide +kernel
theorem dX13_mapsFor_4 : decode cX13_mapsFor 4 = .ok (.iconst 1, 1) := by decide +kernel
theorem dX13_mapsFor_5 : decode cX13_mapsFor 5 = .ok (.if_icmp .ne 7, 3) := by decide +kernel
theorem dX13_mapsFor_8 : decode cX13_mapsFor 8 = .ok (.iconst 1, 1) := by decide +kernel
theorem dX13_mapsFor_9 : decode cX13_mapsFor 9 = .ok (.goto 34, 3) := by decide +kernel
theorem dX13_mapsFor_12 : decode cX13_mapsFor 12 = .ok (.aload_n 0, 1) := by decide +kernel
theorem dX13_mapsFor_13 : decode cX13_mapsFor 13 = .ok (.getfield 466, 3) := by decide +kernel
theorem dX13_mapsFor_16 : decode cX13_mapsFor 16 = .ok (.iconst 5, 1) := by decide +kernel
theorem dX13_mapsFor_17 : decode cX13_mapsFor 17 = .ok (.if_icmp .eq 10, 3) := by decide +kernel
theorem dX13_mapsFor_20 : decode cX13_mapsFor 20 = .ok (.aload_n 0, 1) := by decide +kernel
theorem dX13_mapsFor_21 : decode cX13_mapsFor 21 = .ok (.getfield 609, 3) := by decide +kernel
theorem dX13_mapsFor_24 : decode cX13_mapsFor 24 = .ok (.ifCond .le 7, 3) := by decide +kernel
theorem dX13_mapsFor_27 : decode cX13_mapsFor 27 = .ok (.iconst (-1), 1) := by decide +kernel
theorem dX13_mapsFor_28 : decode cX13_mapsFor 28 = .ok (.goto 15, 3) := by decide +kernel
theorem dX13_mapsFor_31 : decode cX13_mapsFor 31 = .ok (.aload_n 0, 1) := by decide +kernel
theorem dX13_mapsFor_32 : decode cX13_mapsFor 32 = .ok (.getfield 466, 3) := by decide +kernel
theorem dX13_mapsFor_35 : decode cX13_mapsFor 35 = .ok (.ifCond .ne 7, 3) := by decide +kernel
theorem dX13_mapsFor_38 : decode cX13_mapsFor 38 = .ok (.iconst 0, 1) := by decide +kernel
theorem dX13_mapsFor_39 : decode cX13_mapsFor 39 = .ok (.goto 4, 3) := by decide +kernel
theorem dX13_mapsFor_42 : decode cX13_mapsFor 42 = .ok (.iconst 2, 1) := by decide +kernel
theorem dX13_mapsFor_43 : decode cX13_mapsFor 43 = .ok (.ireturn, 1) := by decide +kernel
theorem dX13_mapWith_0 : decode cX13_mapWith 0 = .ok (.iconst (-1), 1) := by decide +kernel
theorem dX13_mapWith_1 : decode cX13_mapWith 1 = .ok (.istore_n 2, 1) := by decide +kernel
theorem dX13_mapWith_2 : decode cX13_mapWith 2 = .ok (.iconst 0, 1) := by decide +kernel
theorem dX13_mapWith_3 : decode cX13_mapWith 3 = .ok (.istore_n 3, 1) := by decide +kernel
theorem dX13_mapWith_4 : decode cX13_mapWith 4 = .ok (.iload_n 3, 1) := by decide +kernel
theorem dX13_mapWith_5 : decode cX13_mapWith 5 = .ok (.aload_n 0, 1) := by decide +kernel
theorem dX13_mapWith_6 : decode cX13_mapWith 6 = .ok (.getfield 1006, 3) := by decide +kernel
theorem dX13_mapWith_9 : decode cX13_mapWith 9 = .ok (.if_icmp .ge 34, 3) := by decide +kernel
theorem dX13_mapWith_12 : decode cX13_mapWith 12 = .ok (.aload_n 0, 1) := by decide +kernel
theorem dX13_mapWith_13 : decode cX13_mapWith 13 = .ok (.getfield 169, 3) := by decide +kernel
theorem dX13_mapWith_16 : decode cX13_mapWith 16 = .ok (.iload_n 3, 1) := by decide +kernel
theorem dX13_mapWith_17 : decode cX13_mapWith 17 = .ok (.iaload, 1) := by decide +kernel
theorem dX13_mapWith_18 : decode cX13_mapWith 18 = .ok (.iload_n 1, 1) := by decide +kernel
theorem dX13_mapWith_19 : decode cX13_mapWith 19 = .ok (.if_icmp .ne 16, 3) := by decide +kernel
theorem dX13_mapWith_22 : decode cX13_mapWith 22 = .ok (.aload_n 0, 1) := by decide +kernel
theorem dX13_mapWith_23 : decode cX13_mapWith 23 = .ok (.iload_n 3, 1) := by decide +kernel
theorem dX13_mapWith_24 : decode cX13_mapWith 24 = .ok (.iload_n 1, 1) := by decide +kernel
theorem dX13_mapWith_25 : decode cX13_mapWith 25 = .ok (.invokevirtual 1009, 3) := by decide +kernel
theorem dX13_mapWith_28 : decode cX13_mapWith 28 = .ok (.ifCond .eq 7, 3) := by decide +kernel
theorem dX13_mapWith_31 : decode cX13_mapWith 31 = .ok (.iload_n 3, 1) := by decide +kernel
theorem dX13_mapWith_32 : decode cX13_mapWith 32 = .ok (.goto 4, 3) := by decide +kernel
theorem dX13_mapWith_35 : decode cX13_mapWith 35 = .ok (.iload_n 2, 1) := by decide +kernel
theorem dX13_mapWith_36 : decode cX13_mapWith 36 = .ok (.istore_n 2, 1) := by decide +kernel
theorem dX13_mapWith_37 : decode cX13_mapWith 37 = .ok (.iinc 3 1, 3) := by decide +kernel
theorem dX13_mapWith_40 : decode cX13_mapWith 40 = .ok (.goto (-36), 3) := by decide +kernel
theorem dX13_mapWith_43 : decode cX13_mapWith 43 = .ok (.iload_n 2, 1) := by decide +kernel
theorem dX13_mapWith_44 : decode cX13_mapWith 44 = .ok (.ireturn, 1) := by decide +kernel
theorem dX13_isLonger_0 : decode cX13_isLonger 0 = .ok (.iconst 0, 1) := by decide +kernel
theorem dX13_isLonger_1 : decode cX13_isLonger 1 = .ok (.istore_n 2, 1) := by decide +kernel
theorem dX13_isLonger_2 : decode cX13_isLonger 2 = .ok (.iconst 0, 1) := by decide +kernel
theorem dX13_isLonger_3 : decode cX13_isLonger 3 = .ok (.istore_n 3, 1) := by decide +kernel
theorem dX13_isLonger_4 : decode cX13_isLonger 4 = .ok (.iload_n 3, 1) := by decide +kernel
theorem dX13_isLonger_5 : decode cX13_isLonger 5 = .ok (.aload_n 0, 1) := by decide +kernel
theorem dX13_isLonger_6 : decode cX13_isLonger 6 = .ok (.getfield 1006, 3) := by decide +kernel
theorem dX13_isLonger_9 : decode cX13_isLonger 9 = .ok (.if_icmp .ge 38, 3) := by decide +kernel
theorem dX13_isLonger_12 : decode cX13_isLonger 12 = .ok (.iload_n 2, 1) := by decide +kernel
theorem dX13_isLonger_13 : decode cX13_isLonger 13 = .ok (.ifCond .ne 22, 3) := by decide +kernel
theorem dX13_isLonger_16 : decode cX13_isLonger 16 = .ok (.aload_n 0, 1) := by decide +kernel
theorem dX13_isLonger_17 : decode cX13_isLonger 17 = .ok (.getfield 169, 3) := by decide +kernel
theorem dX13_isLonger_20 : decode cX13_isLonger 20 = .ok (.iload_n 3, 1) := by decide +kernel
theorem dX13_isLonger_21 : decode cX13_isLonger 21 = .ok (.iaload, 1) := by decide +kernel
theorem dX13_isLonger_22 : decode cX13_isLonger 22 = .ok (.iload_n 1, 1) := by decide +kernel
theorem dX13_isLonger_23 : decode cX13_isLonger 23 = .ok (.if_icmp .le 16, 3) := by decide +kernel
theorem dX13_isLonger_26 : decode cX13_isLonger 26 = .ok (.aload_n 0, 1) := by decide +kernel
theorem dX13_isLonger_27 : decode cX13_isLonger 27 = .ok (.iload_n 3, 1) := by decide +kernel
theorem dX13_isLonger_28 : decode cX13_isLonger 28 = .ok (.iload_n 1, 1) := by decide +kernel
theorem dX13_isLonger_29 : decode cX13_isLonger 29 = .ok (.invokevirtual 1009, 3) := by decide +kernel
theorem dX13_isLonger_32 : decode cX13_isLonger 32 = .ok (.ifCond .eq 7, 3) := by decide +kernel
theorem dX13_isLonger_35 : decode cX13_isLonger 35 = .ok (.iconst 1, 1) := by decide +kernel
theorem dX13_isLonger_36 : decode cX13_isLonger 36 = .ok (.goto 4, 3) := by decide +kernel
theorem dX13_isLonger_39 : decode cX13_isLonger 39 = .ok (.iconst 0, 1) := by decide +kernel
theorem dX13_isLonger_40 : decode cX13_isLonger 40 = .ok (.istore_n 2, 1) := by decide +kernel
theorem dX13_isLonger_41 : decode cX13_isLonger 41 = .ok (.iinc 3 1, 3) := by decide +kernel
theorem dX13_isLonger_44 : decode cX13_isLonger 44 = .ok (.goto (-40), 3) := by decide +kernel
theorem dX13_isLonger_47 : decode cX13_isLonger 47 = .ok (.iload_n 2, 1) := by decide +kernel
theorem dX13_isLonger_48 : decode cX13_isLonger 48 = .ok (.ireturn, 1) := by decide +kernel
theorem dX13_takesOff_0 : decode cX13_takesOff 0 = .ok (.iload_n 1, 1) := by decide +kernel
theorem dX13_takesOff_1 : decode cX13_takesOff 1 = .ok (.istore_n 2, 1) := by decide +kernel
theorem dX13_takesOff_2 : decode cX13_takesOff 2 = .ok (.iload_n 2, 1) := by decide +kernel
theorem dX13_takesOff_3 : decode cX13_takesOff 3 = .ok (.aload_n 0, 1) := by decide +kernel
theorem dX13_takesOff_4 : decode cX13_takesOff 4 = .ok (.getfield 998, 3) := by decide +kernel
theorem dX13_takesOff_7 : decode cX13_takesOff 7 = .ok (.if_icmp .ge 51, 3) := by decide +kernel
theorem dX13_takesOff_10 : decode cX13_takesOff 10 = .ok (.aload_n 0, 1) := by decide +kernel
theorem dX13_takesOff_11 : decode cX13_takesOff 11 = .ok (.getfield 182, 3) := by decide +kernel
theorem dX13_takesOff_14 : decode cX13_takesOff 14 = .ok (.iload_n 2, 1) := by decide +kernel
theorem dX13_takesOff_15 : decode cX13_takesOff 15 = .ok (.iload_n 1, 1) := by decide +kernel
theorem dX13_takesOff_16 : decode cX13_takesOff 16 = .ok (.isub, 1) := by decide +kernel
theorem dX13_takesOff_17 : decode cX13_takesOff 17 = .ok (.aload_n 0, 1) := by decide +kernel
theorem dX13_takesOff_18 : decode cX13_takesOff 18 = .ok (.getfield 182, 3) := by decide +kernel
theorem dX13_takesOff_21 : decode cX13_takesOff 21 = .ok (.iload_n 2, 1) := by decide +kernel
theorem dX13_takesOff_22 : decode cX13_takesOff 22 = .ok (.iaload, 1) := by decide +kernel
theorem dX13_takesOff_23 : decode cX13_takesOff 23 = .ok (.iastore, 1) := by decide +kernel
theorem dX13_takesOff_24 : decode cX13_takesOff 24 = .ok (.aload_n 0, 1) := by decide +kernel
theorem dX13_takesOff_25 : decode cX13_takesOff 25 = .ok (.getfield 185, 3) := by decide +kernel
theorem dX13_takesOff_28 : decode cX13_takesOff 28 = .ok (.iload_n 2, 1) := by decide +kernel
theorem dX13_takesOff_29 : decode cX13_takesOff 29 = .ok (.iload_n 1, 1) := by decide +kernel
theorem dX13_takesOff_30 : decode cX13_takesOff 30 = .ok (.isub, 1) := by decide +kernel
theorem dX13_takesOff_31 : decode cX13_takesOff 31 = .ok (.aload_n 0, 1) := by decide +kernel
theorem dX13_takesOff_32 : decode cX13_takesOff 32 = .ok (.getfield 185, 3) := by decide +kernel
theorem dX13_takesOff_35 : decode cX13_takesOff 35 = .ok (.iload_n 2, 1) := by decide +kernel
theorem dX13_takesOff_36 : decode cX13_takesOff 36 = .ok (.baload, 1) := by decide +kernel
theorem dX13_takesOff_37 : decode cX13_takesOff 37 = .ok (.bastore, 1) := by decide +kernel
theorem dX13_takesOff_38 : decode cX13_takesOff 38 = .ok (.aload_n 0, 1) := by decide +kernel
theorem dX13_takesOff_39 : decode cX13_takesOff 39 = .ok (.getfield 188, 3) := by decide +kernel
theorem dX13_takesOff_42 : decode cX13_takesOff 42 = .ok (.iload_n 2, 1) := by decide +kernel
theorem dX13_takesOff_43 : decode cX13_takesOff 43 = .ok (.iload_n 1, 1) := by decide +kernel
theorem dX13_takesOff_44 : decode cX13_takesOff 44 = .ok (.isub, 1) := by decide +kernel
theorem dX13_takesOff_45 : decode cX13_takesOff 45 = .ok (.aload_n 0, 1) := by decide +kernel
theorem dX13_takesOff_46 : decode cX13_takesOff 46 = .ok (.getfield 188, 3) := by decide +kernel
theorem dX13_takesOff_49 : decode cX13_takesOff 49 = .ok (.iload_n 2, 1) := by decide +kernel
theorem dX13_takesOff_50 : decode cX13_takesOff 50 = .ok (.baload, 1) := by decide +kernel
theorem dX13_takesOff_51 : decode cX13_takesOff 51 = .ok (.bastore, 1) := by decide +kernel
theorem dX13_takesOff_52 : decode cX13_takesOff 52 = .ok (.iinc 2 1, 3) := by decide +kernel
theorem dX13_takesOff_55 : decode cX13_takesOff 55 = .ok (.goto (-53), 3) := by decide +kernel
theorem dX13_takesOff_58 : decode cX13_takesOff 58 = .ok (.aload_n 0, 1) := by decide +kernel
theorem dX13_takesOff_59 : decode cX13_takesOff 59 = .ok (.dup, 1) := by decide +kernel
theorem dX13_takesOff_60 : decode cX13_takesOff 60 = .ok (.getfield 998, 3) := by decide +kernel
theorem dX13_takesOff_63 : decode cX13_takesOff 63 = .ok (.iload_n 1, 1) := by decide +kernel
theorem dX13_takesOff_64 : decode cX13_takesOff 64 = .ok (.isub, 1) := by decide +kernel
theorem dX13_takesOff_65 : decode cX13_takesOff 65 = .ok (.putfield 998, 3) := by decide +kernel
theorem dX13_takesOff_68 : decode cX13_takesOff 68 = .ok (.return_, 1) := by decide +kernel
theorem dX13_takesMap_0 : decode cX13_takesMap 0 = .ok (.aload_n 0, 1) := by decide +kernel
theorem dX13_takesMap_1 : decode cX13_takesMap 1 = .ok (.aload_n 0, 1) := by decide +kernel
theorem dX13_takesMap_2 : decode cX13_takesMap 2 = .ok (.getfield 169, 3) := by decide +kernel
theorem dX13_takesMap_5 : decode cX13_takesMap 5 = .ok (.iload_n 1, 1) := by decide +kernel
theorem dX13_takesMap_6 : decode cX13_takesMap 6 = .ok (.iaload, 1) := by decide +kernel
theorem dX13_takesMap_7 : decode cX13_takesMap 7 = .ok (.invokevirtual 1012, 3) := by decide +kernel
theorem dX13_takesMap_10 : decode cX13_takesMap 10 = .ok (.aload_n 0, 1) := by decide +kernel
theorem dX13_takesMap_11 : decode cX13_takesMap 11 = .ok (.getfield 175, 3) := by decide +kernel
theorem dX13_takesMap_14 : decode cX13_takesMap 14 = .ok (.bipush 9, 2) := by decide +kernel
theorem dX13_takesMap_16 : decode cX13_takesMap 16 = .ok (.iload_n 1, 1) := by decide +kernel
theorem dX13_takesMap_17 : decode cX13_takesMap 17 = .ok (.imul, 1) := by decide +kernel
theorem dX13_takesMap_18 : decode cX13_takesMap 18 = .ok (.iaload, 1) := by decide +kernel
theorem dX13_takesMap_19 : decode cX13_takesMap 19 = .ok (.istore_n 2, 1) := by decide +kernel
theorem dX13_takesMap_20 : decode cX13_takesMap 20 = .ok (.aload_n 0, 1) := by decide +kernel
theorem dX13_takesMap_21 : decode cX13_takesMap 21 = .ok (.getfield 1015, 3) := by decide +kernel
theorem dX13_takesMap_24 : decode cX13_takesMap 24 = .ok (.iload_n 2, 1) := by decide +kernel
theorem dX13_takesMap_25 : decode cX13_takesMap 25 = .ok (.iadd, 1) := by decide +kernel
theorem dX13_takesMap_26 : decode cX13_takesMap 26 = .ok (.sipush 200, 3) := by decide +kernel
theorem dX13_takesMap_29 : decode cX13_takesMap 29 = .ok (.if_icmp .le 18, 3) := by decide +kernel
theorem dX13_takesMap_32 : decode cX13_takesMap 32 = .ok (.aload_n 0, 1) := by decide +kernel
theorem dX13_takesMap_33 : decode cX13_takesMap 33 = .ok (.dup, 1) := by decide +kernel
theorem dX13_takesMap_34 : decode cX13_takesMap 34 = .ok (.getfield 684, 3) := by decide +kernel
theorem dX13_takesMap_37 : decode cX13_takesMap 37 = .ok (.iconst 1, 1) := by decide +kernel
theorem dX13_takesMap_38 : decode cX13_takesMap 38 = .ok (.iadd, 1) := by decide +kernel
theorem dX13_takesMap_39 : decode cX13_takesMap 39 = .ok (.putfield 684, 3) := by decide +kernel
theorem dX13_takesMap_42 : decode cX13_takesMap 42 = .ok (.aload_n 0, 1) := by decide +kernel
theorem dX13_takesMap_43 : decode cX13_takesMap 43 = .ok (.invokevirtual 687, 3) := by decide +kernel
theorem dX13_takesMap_46 : decode cX13_takesMap 46 = .ok (.return_, 1) := by decide +kernel
theorem dX13_takesMap_47 : decode cX13_takesMap 47 = .ok (.aload_n 0, 1) := by decide +kernel
theorem dX13_takesMap_48 : decode cX13_takesMap 48 = .ok (.dup, 1) := by decide +kernel
theorem dX13_takesMap_49 : decode cX13_takesMap 49 = .ok (.getfield 1015, 3) := by decide +kernel
theorem dX13_takesMap_52 : decode cX13_takesMap 52 = .ok (.iload_n 2, 1) := by decide +kernel
theorem dX13_takesMap_53 : decode cX13_takesMap 53 = .ok (.iadd, 1) := by decide +kernel
theorem dX13_takesMap_54 : decode cX13_takesMap 54 = .ok (.putfield 1015, 3) := by decide +kernel
theorem dX13_takesMap_57 : decode cX13_takesMap 57 = .ok (.aload_n 0, 1) := by decide +kernel
theorem dX13_takesMap_58 : decode cX13_takesMap 58 = .ok (.getfield 998, 3) := by decide +kernel
theorem dX13_takesMap_61 : decode cX13_takesMap 61 = .ok (.iconst 1, 1) := by decide +kernel
theorem dX13_takesMap_62 : decode cX13_takesMap 62 = .ok (.isub, 1) := by decide +kernel
theorem dX13_takesMap_63 : decode cX13_takesMap 63 = .ok (.istore_n 3, 1) := by decide +kernel
theorem dX13_takesMap_64 : decode cX13_takesMap 64 = .ok (.iload_n 3, 1) := by decide +kernel
theorem dX13_takesMap_65 : decode cX13_takesMap 65 = .ok (.ifCond .lt 51, 3) := by decide +kernel
theorem dX13_takesMap_68 : decode cX13_takesMap 68 = .ok (.aload_n 0, 1) := by decide +kernel
theorem dX13_takesMap_69 : decode cX13_takesMap 69 = .ok (.getfield 182, 3) := by decide +kernel
theorem dX13_takesMap_72 : decode cX13_takesMap 72 = .ok (.iload_n 3, 1) := by decide +kernel
theorem dX13_takesMap_73 : decode cX13_takesMap 73 = .ok (.iload_n 2, 1) := by decide +kernel
theorem dX13_takesMap_74 : decode cX13_takesMap 74 = .ok (.iadd, 1) := by decide +kernel
theorem dX13_takesMap_75 : decode cX13_takesMap 75 = .ok (.aload_n 0, 1) := by decide +kernel
theorem dX13_takesMap_76 : decode cX13_takesMap 76 = .ok (.getfield 182, 3) := by decide +kernel
theorem dX13_takesMap_79 : decode cX13_takesMap 79 = .ok (.iload_n 3, 1) := by decide +kernel
theorem dX13_takesMap_80 : decode cX13_takesMap 80 = .ok (.iaload, 1) := by decide +kernel
theorem dX13_takesMap_81 : decode cX13_takesMap 81 = .ok (.iastore, 1) := by decide +kernel
theorem dX13_takesMap_82 : decode cX13_takesMap 82 = .ok (.aload_n 0, 1) := by decide +kernel
theorem dX13_takesMap_83 : decode cX13_takesMap 83 = .ok (.getfield 185, 3) := by decide +kernel
theorem dX13_takesMap_86 : decode cX13_takesMap 86 = .ok (.iload_n 3, 1) := by decide +kernel
theorem dX13_takesMap_87 : decode cX13_takesMap 87 = .ok (.iload_n 2, 1) := by decide +kernel
theorem dX13_takesMap_88 : decode cX13_takesMap 88 = .ok (.iadd, 1) := by decide +kernel
theorem dX13_takesMap_89 : decode cX13_takesMap 89 = .ok (.aload_n 0, 1) := by decide +kernel
theorem dX13_takesMap_90 : decode cX13_takesMap 90 = .ok (.getfield 185, 3) := by decide +kernel
theorem dX13_takesMap_93 : decode cX13_takesMap 93 = .ok (.iload_n 3, 1) := by decide +kernel
theorem dX13_takesMap_94 : decode cX13_takesMap 94 = .ok (.baload, 1) := by decide +kernel
theorem dX13_takesMap_95 : decode cX13_takesMap 95 = .ok (.bastore, 1) := by decide +kernel
theorem dX13_takesMap_96 : decode cX13_takesMap 96 = .ok (.aload_n 0, 1) := by decide +kernel
theorem dX13_takesMap_97 : decode cX13_takesMap 97 = .ok (.getfield 188, 3) := by decide +kernel
theorem dX13_takesMap_100 : decode cX13_takesMap 100 = .ok (.iload_n 3, 1) := by decide +kernel
theorem dX13_takesMap_101 : decode cX13_takesMap 101 = .ok (.iload_n 2, 1) := by decide +kernel
theorem dX13_takesMap_102 : decode cX13_takesMap 102 = .ok (.iadd, 1) := by decide +kernel
theorem dX13_takesMap_103 : decode cX13_takesMap 103 = .ok (.aload_n 0, 1) := by decide +kernel
theorem dX13_takesMap_104 : decode cX13_takesMap 104 = .ok (.getfield 188, 3) := by decide +kernel
theorem dX13_takesMap_107 : decode cX13_takesMap 107 = .ok (.iload_n 3, 1) := by decide +kernel
theorem dX13_takesMap_108 : decode cX13_takesMap 108 = .ok (.baload, 1) := by decide +kernel
theorem dX13_takesMap_109 : decode cX13_takesMap 109 = .ok (.bastore, 1) := by decide +kernel
theorem dX13_takesMap_110 : decode cX13_takesMap 110 = .ok (.iinc 3 (-1), 3) := by decide +kernel
theorem dX13_takesMap_113 : decode cX13_takesMap 113 = .ok (.goto (-49), 3) := by decide +kernel
theorem dX13_takesMap_116 : decode cX13_takesMap 116 = .ok (.iconst 0, 1) := by decide +kernel
theorem dX13_takesMap_117 : decode cX13_takesMap 117 = .ok (.istore_n 3, 1) := by decide +kernel
theorem dX13_takesMap_118 : decode cX13_takesMap 118 = .ok (.iload_n 3, 1) := by decide +kernel
theorem dX13_takesMap_119 : decode cX13_takesMap 119 = .ok (.iload_n 2, 1) := by decide +kernel
theorem dX13_takesMap_120 : decode cX13_takesMap 120 = .ok (.if_icmp .ge 55, 3) := by decide +kernel
theorem dX13_takesMap_123 : decode cX13_takesMap 123 = .ok (.aload_n 0, 1) := by decide +kernel
theorem dX13_takesMap_124 : decode cX13_takesMap 124 = .ok (.getfield 182, 3) := by decide +kernel
theorem dX13_takesMap_127 : decode cX13_takesMap 127 = .ok (.iload_n 3, 1) := by decide +kernel
theorem dX13_takesMap_128 : decode cX13_takesMap 128 = .ok (.aload_n 0, 1) := by decide +kernel
theorem dX13_takesMap_129 : decode cX13_takesMap 129 = .ok (.getfield 175, 3) := by decide +kernel
theorem dX13_takesMap_132 : decode cX13_takesMap 132 = .ok (.bipush 9, 2) := by decide +kernel
theorem dX13_takesMap_134 : decode cX13_takesMap 134 = .ok (.iload_n 1, 1) := by decide +kernel
theorem dX13_takesMap_135 : decode cX13_takesMap 135 = .ok (.imul, 1) := by decide +kernel
theorem dX13_takesMap_136 : decode cX13_takesMap 136 = .ok (.iconst 1, 1) := by decide +kernel
theorem dX13_takesMap_137 : decode cX13_takesMap 137 = .ok (.iadd, 1) := by decide +kernel
theorem dX13_takesMap_138 : decode cX13_takesMap 138 = .ok (.iload_n 3, 1) := by decide +kernel
theorem dX13_takesMap_139 : decode cX13_takesMap 139 = .ok (.iadd, 1) := by decide +kernel
theorem dX13_takesMap_140 : decode cX13_takesMap 140 = .ok (.iaload, 1) := by decide +kernel
theorem dX13_takesMap_141 : decode cX13_takesMap 141 = .ok (.iastore, 1) := by decide +kernel
theorem dX13_takesMap_142 : decode cX13_takesMap 142 = .ok (.aload_n 0, 1) := by decide +kernel
theorem dX13_takesMap_143 : decode cX13_takesMap 143 = .ok (.getfield 185, 3) := by decide +kernel
theorem dX13_takesMap_146 : decode cX13_takesMap 146 = .ok (.iload_n 3, 1) := by decide +kernel
theorem dX13_takesMap_147 : decode cX13_takesMap 147 = .ok (.iconst 1, 1) := by decide +kernel
theorem dX13_takesMap_148 : decode cX13_takesMap 148 = .ok (.bastore, 1) := by decide +kernel
theorem dX13_takesMap_149 : decode cX13_takesMap 149 = .ok (.aload_n 0, 1) := by decide +kernel
theorem dX13_takesMap_150 : decode cX13_takesMap 150 = .ok (.getfield 188, 3) := by decide +kernel
theorem dX13_takesMap_153 : decode cX13_takesMap 153 = .ok (.iload_n 3, 1) := by decide +kernel
theorem dX13_takesMap_154 : decode cX13_takesMap 154 = .ok (.aload_n 0, 1) := by decide +kernel
theorem dX13_takesMap_155 : decode cX13_takesMap 155 = .ok (.getfield 178, 3) := by decide +kernel
theorem dX13_takesMap_158 : decode cX13_takesMap 158 = .ok (.iload_n 1, 1) := by decide +kernel
theorem dX13_takesMap_159 : decode cX13_takesMap 159 = .ok (.baload, 1) := by decide +kernel
theorem dX13_takesMap_160 : decode cX13_takesMap 160 = .ok (.ifCond .ne 7, 3) := by decide +kernel
theorem dX13_takesMap_163 : decode cX13_takesMap 163 = .ok (.iconst 1, 1) := by decide +kernel
theorem dX13_takesMap_164 : decode cX13_takesMap 164 = .ok (.goto 4, 3) := by decide +kernel
theorem dX13_takesMap_167 : decode cX13_takesMap 167 = .ok (.iconst 0, 1) := by decide +kernel
theorem dX13_takesMap_168 : decode cX13_takesMap 168 = .ok (.bastore, 1) := by decide +kernel
theorem dX13_takesMap_169 : decode cX13_takesMap 169 = .ok (.iinc 3 1, 3) := by decide +kernel
theorem dX13_takesMap_172 : decode cX13_takesMap 172 = .ok (.goto (-54), 3) := by decide +kernel
theorem dX13_takesMap_175 : decode cX13_takesMap 175 = .ok (.aload_n 0, 1) := by decide +kernel
theorem dX13_takesMap_176 : decode cX13_takesMap 176 = .ok (.dup, 1) := by decide +kernel
theorem dX13_takesMap_177 : decode cX13_takesMap 177 = .ok (.getfield 998, 3) := by decide +kernel
theorem dX13_takesMap_180 : decode cX13_takesMap 180 = .ok (.iload_n 2, 1) := by decide +kernel
theorem dX13_takesMap_181 : decode cX13_takesMap 181 = .ok (.iadd, 1) := by decide +kernel
theorem dX13_takesMap_182 : decode cX13_takesMap 182 = .ok (.putfield 998, 3) := by decide +kernel
theorem dX13_takesMap_185 : decode cX13_takesMap 185 = .ok (.return_, 1) := by decide +kernel
theorem dX13_isText_0 : decode cX13_isText 0 = .ok (.iconst 1, 1) := by decide +kernel
theorem dX13_isText_1 : decode cX13_isText 1 = .ok (.istore_n 1, 1) := by decide +kernel
theorem dX13_isText_2 : decode cX13_isText 2 = .ok (.iconst 0, 1) := by decide +kernel
theorem dX13_isText_3 : decode cX13_isText 3 = .ok (.istore_n 2, 1) := by decide +kernel
theorem dX13_isText_4 : decode cX13_isText 4 = .ok (.iconst 1, 1) := by decide +kernel
theorem dX13_isText_5 : decode cX13_isText 5 = .ok (.istore_n 3, 1) := by decide +kernel
theorem dX13_isText_6 : decode cX13_isText 6 = .ok (.iconst 0, 1) := by decide +kernel
theorem dX13_isText_7 : decode cX13_isText 7 = .ok (.istore 4, 2) := by decide +kernel
theorem dX13_isText_9 : decode cX13_isText 9 = .ok (.iload 4, 2) := by decide +kernel
theorem dX13_isText_11 : decode cX13_isText 11 = .ok (.aload_n 0, 1) := by decide +kernel
theorem dX13_isText_12 : decode cX13_isText 12 = .ok (.getfield 1040, 3) := by decide +kernel
theorem dX13_isText_15 : decode cX13_isText 15 = .ok (.if_icmp .ge 65, 3) := by decide +kernel
theorem dX13_isText_18 : decode cX13_isText 18 = .ok (.iload_n 1, 1) := by decide +kernel
theorem dX13_isText_19 : decode cX13_isText 19 = .ok (.aload_n 0, 1) := by decide +kernel
theorem dX13_isText_20 : decode cX13_isText 20 = .ok (.getfield 7, 3) := by decide +kernel
theorem dX13_isText_23 : decode cX13_isText 23 = .ok (.iload 4, 2) := by decide +kernel
theorem dX13_isText_25 : decode cX13_isText 25 = .ok (.iaload, 1) := by decide +kernel
theorem dX13_isText_26 : decode cX13_isText 26 = .ok (.bipush 10, 2) := by decide +kernel
theorem dX13_isText_28 : decode cX13_isText 28 = .ok (.if_icmp .ne 7, 3) := by decide +kernel
theorem dX13_isText_31 : decode cX13_isText 31 = .ok (.iconst 1, 1) := by decide +kernel
theorem dX13_isText_32 : decode cX13_isText 32 = .ok (.goto 4, 3) := by decide +kernel
theorem dX13_isText_35 : decode cX13_isText 35 = .ok (.iconst 0, 1) := by decide +kernel
theorem dX13_isText_36 : decode cX13_isText 36 = .ok (.iadd, 1) := by decide +kernel
theorem dX13_isText_37 : decode cX13_isText 37 = .ok (.istore_n 1, 1) := by decide +kernel
theorem dX13_isText_38 : decode cX13_isText 38 = .ok (.aload_n 0, 1) := by decide +kernel
theorem dX13_isText_39 : decode cX13_isText 39 = .ok (.getfield 7, 3) := by decide +kernel
theorem dX13_isText_42 : decode cX13_isText 42 = .ok (.iload 4, 2) := by decide +kernel
theorem dX13_isText_44 : decode cX13_isText 44 = .ok (.iaload, 1) := by decide +kernel
theorem dX13_isText_45 : decode cX13_isText 45 = .ok (.bipush 10, 2) := by decide +kernel
theorem dX13_isText_47 : decode cX13_isText 47 = .ok (.if_icmp .ne 7, 3) := by decide +kernel
theorem dX13_isText_50 : decode cX13_isText 50 = .ok (.iconst 0, 1) := by decide +kernel
theorem dX13_isText_51 : decode cX13_isText 51 = .ok (.goto 6, 3) := by decide +kernel
theorem dX13_isText_54 : decode cX13_isText 54 = .ok (.iload_n 2, 1) := by decide +kernel
theorem dX13_isText_55 : decode cX13_isText 55 = .ok (.iconst 1, 1) := by decide +kernel
theorem dX13_isText_56 : decode cX13_isText 56 = .ok (.iadd, 1) := by decide +kernel
theorem dX13_isText_57 : decode cX13_isText 57 = .ok (.istore_n 2, 1) := by decide +kernel
theorem dX13_isText_58 : decode cX13_isText 58 = .ok (.iload_n 3, 1) := by decide +kernel
theorem dX13_isText_59 : decode cX13_isText 59 = .ok (.ifCond .eq 13, 3) := by decide +kernel
theorem dX13_isText_62 : decode cX13_isText 62 = .ok (.iload_n 2, 1) := by decide +kernel
theorem dX13_isText_63 : decode cX13_isText 63 = .ok (.bipush 60, 2) := by decide +kernel
theorem dX13_isText_65 : decode cX13_isText 65 = .ok (.if_icmp .gt 7, 3) := by decide +kernel
theorem dX13_isText_68 : decode cX13_isText 68 = .ok (.iconst 1, 1) := by decide +kernel
theorem dX13_isText_69 : decode cX13_isText 69 = .ok (.goto 4, 3) := by decide +kernel
theorem dX13_isText_72 : decode cX13_isText 72 = .ok (.iconst 0, 1) := by decide +kernel
theorem dX13_isText_73 : decode cX13_isText 73 = .ok (.istore_n 3, 1) := by decide +kernel
theorem dX13_isText_74 : decode cX13_isText 74 = .ok (.iinc 4 1, 3) := by decide +kernel
theorem dX13_isText_77 : decode cX13_isText 77 = .ok (.goto (-68), 3) := by decide +kernel
theorem dX13_isText_80 : decode cX13_isText 80 = .ok (.iload_n 3, 1) := by decide +kernel
theorem dX13_isText_81 : decode cX13_isText 81 = .ok (.ifCond .eq 13, 3) := by decide +kernel
theorem dX13_isText_84 : decode cX13_isText 84 = .ok (.iload_n 1, 1) := by decide +kernel
theorem dX13_isText_85 : decode cX13_isText 85 = .ok (.bipush 40, 2) := by decide +kernel
theorem dX13_isText_87 : decode cX13_isText 87 = .ok (.if_icmp .gt 7, 3) := by decide +kernel
theorem dX13_isText_90 : decode cX13_isText 90 = .ok (.iconst 1, 1) := by decide +kernel
theorem dX13_isText_91 : decode cX13_isText 91 = .ok (.goto 4, 3) := by decide +kernel
theorem dX13_isText_94 : decode cX13_isText 94 = .ok (.iconst 0, 1) := by decide +kernel
theorem dX13_isText_95 : decode cX13_isText 95 = .ok (.ireturn, 1) := by decide +kernel
theorem dX13_load_0 : decode cX13_load 0 = .ok (.aload_n 0, 1) := by decide +kernel
theorem dX13_load_1 : decode cX13_load 1 = .ok (.aload_n 0, 1) := by decide +kernel
theorem dX13_load_2 : decode cX13_load 2 = .ok (.invokevirtual 1046, 3) := by decide +kernel
theorem dX13_load_5 : decode cX13_load 5 = .ok (.ifCond .eq 7, 3) := by decide +kernel
theorem dX13_load_8 : decode cX13_load 8 = .ok (.iconst 0, 1) := by decide +kernel
theorem dX13_load_9 : decode cX13_load 9 = .ok (.goto 4, 3) := by decide +kernel
theorem dX13_load_12 : decode cX13_load 12 = .ok (.iconst 1, 1) := by decide +kernel
theorem dX13_load_13 : decode cX13_load 13 = .ok (.invokevirtual 1043, 3) := by decide +kernel
theorem dX13_load_16 : decode cX13_load 16 = .ok (.ifCond .ne 5, 3) := by decide +kernel
theorem dX13_load_19 : decode cX13_load 19 = .ok (.iconst 0, 1) := by decide +kernel
theorem dX13_load_20 : decode cX13_load 20 = .ok (.ireturn, 1) := by decide +kernel
theorem dX13_load_21 : decode cX13_load 21 = .ok (.aload_n 0, 1) := by decide +kernel
theorem dX13_load_22 : decode cX13_load 22 = .ok (.iconst 1, 1) := by decide +kernel
theorem dX13_load_23 : decode cX13_load 23 = .ok (.putfield 13, 3) := by decide +kernel
theorem dX13_load_26 : decode cX13_load 26 = .ok (.aload_n 0, 1) := by decide +kernel
theorem dX13_load_27 : decode cX13_load 27 = .ok (.getfield 17, 3) := by decide +kernel
theorem dX13_load_30 : decode cX13_load 30 = .ok (.iconst 0, 1) := by decide +kernel
theorem dX13_load_31 : decode cX13_load 31 = .ok (.iconst 0, 1) := by decide +kernel
theorem dX13_load_32 : decode cX13_load 32 = .ok (.iastore, 1) := by decide +kernel
theorem dX13_load_33 : decode cX13_load 33 = .ok (.iconst 0, 1) := by decide +kernel
theorem dX13_load_34 : decode cX13_load 34 = .ok (.istore_n 1, 1) := by decide +kernel
theorem dX13_load_35 : decode cX13_load 35 = .ok (.iload_n 1, 1) := by decide +kernel
theorem dX13_load_36 : decode cX13_load 36 = .ok (.aload_n 0, 1) := by decide +kernel
theorem dX13_load_37 : decode cX13_load 37 = .ok (.getfield 1040, 3) := by decide +kernel
theorem dX13_load_40 : decode cX13_load 40 = .ok (.if_icmp .ge 92, 3) := by decide +kernel
theorem dX13_load_43 : decode cX13_load 43 = .ok (.aload_n 0, 1) := by decide +kernel
theorem dX13_load_44 : decode cX13_load 44 = .ok (.getfield 7, 3) := by decide +kernel
theorem dX13_load_47 : decode cX13_load 47 = .ok (.iload_n 1, 1) := by decide +kernel
theorem dX13_load_48 : decode cX13_load 48 = .ok (.iaload, 1) := by decide +kernel
theorem dX13_load_49 : decode cX13_load 49 = .ok (.bipush 10, 2) := by decide +kernel
theorem dX13_load_51 : decode cX13_load 51 = .ok (.if_icmp .ne 28, 3) := by decide +kernel
theorem dX13_load_54 : decode cX13_load 54 = .ok (.aload_n 0, 1) := by decide +kernel
theorem dX13_load_55 : decode cX13_load 55 = .ok (.dup, 1) := by decide +kernel
theorem dX13_load_56 : decode cX13_load 56 = .ok (.getfield 13, 3) := by decide +kernel
theorem dX13_load_59 : decode cX13_load 59 = .ok (.iconst 1, 1) := by decide +kernel
theorem dX13_load_60 : decode cX13_load 60 = .ok (.iadd, 1) := by decide +kernel
theorem dX13_load_61 : decode cX13_load 61 = .ok (.putfield 13, 3) := by decide +kernel
theorem dX13_load_64 : decode cX13_load 64 = .ok (.aload_n 0, 1) := by decide +kernel
theorem dX13_load_65 : decode cX13_load 65 = .ok (.getfield 17, 3) := by decide +kernel
theorem dX13_load_68 : decode cX13_load 68 = .ok (.aload_n 0, 1) := by decide +kernel
theorem dX13_load_69 : decode cX13_load 69 = .ok (.getfield 13, 3) := by decide +kernel
theorem dX13_load_72 : decode cX13_load 72 = .ok (.iconst 1, 1) := by decide +kernel
theorem dX13_load_73 : decode cX13_load 73 = .ok (.isub, 1) := by decide +kernel
theorem dX13_load_74 : decode cX13_load 74 = .ok (.iconst 0, 1) := by decide +kernel
theorem dX13_load_75 : decode cX13_load 75 = .ok (.iastore, 1) := by decide +kernel
theorem dX13_load_76 : decode cX13_load 76 = .ok (.goto 50, 3) := by decide +kernel
theorem dX13_load_79 : decode cX13_load 79 = .ok (.aload_n 0, 1) := by decide +kernel
theorem dX13_load_80 : decode cX13_load 80 = .ok (.getfield 20, 3) := by decide +kernel
theorem dX13_load_83 : decode cX13_load 83 = .ok (.bipush 60, 2) := by decide +kernel
theorem dX13_load_85 : decode cX13_load 85 = .ok (.aload_n 0, 1) := by decide +kernel
theorem dX13_load_86 : decode cX13_load 86 = .ok (.getfield 13, 3) := by decide +kernel
theorem dX13_load_89 : decode cX13_load 89 = .ok (.iconst 1, 1) := by decide +kernel
theorem dX13_load_90 : decode cX13_load 90 = .ok (.isub, 1) := by decide +kernel
theorem dX13_load_91 : decode cX13_load 91 = .ok (.imul, 1) := by decide +kernel
theorem dX13_load_92 : decode cX13_load 92 = .ok (.aload_n 0, 1) := by decide +kernel
theorem dX13_load_93 : decode cX13_load 93 = .ok (.getfield 17, 3) := by decide +kernel
theorem dX13_load_96 : decode cX13_load 96 = .ok (.aload_n 0, 1) := by decide +kernel
theorem dX13_load_97 : decode cX13_load 97 = .ok (.getfield 13, 3) := by decide +kernel
theorem dX13_load_100 : decode cX13_load 100 = .ok (.iconst 1, 1) := by decide +kernel
theorem dX13_load_101 : decode cX13_load 101 = .ok (.isub, 1) := by decide +kernel
theorem dX13_load_102 : decode cX13_load 102 = .ok (.iaload, 1) := by decide +kernel
theorem dX13_load_103 : decode cX13_load 103 = .ok (.iadd, 1) := by decide +kernel
theorem dX13_load_104 : decode cX13_load 104 = .ok (.aload_n 0, 1) := by decide +kernel
theorem dX13_load_105 : decode cX13_load 105 = .ok (.getfield 7, 3) := by decide +kernel
theorem dX13_load_108 : decode cX13_load 108 = .ok (.iload_n 1, 1) := by decide +kernel
theorem dX13_load_109 : decode cX13_load 109 = .ok (.iaload, 1) := by decide +kernel
theorem dX13_load_110 : decode cX13_load 110 = .ok (.iastore, 1) := by decide +kernel
theorem dX13_load_111 : decode cX13_load 111 = .ok (.aload_n 0, 1) := by decide +kernel
theorem dX13_load_112 : decode cX13_load 112 = .ok (.getfield 17, 3) := by decide +kernel
theorem dX13_load_115 : decode cX13_load 115 = .ok (.aload_n 0, 1) := by decide +kernel
theorem dX13_load_116 : decode cX13_load 116 = .ok (.getfield 13, 3) := by decide +kernel
theorem dX13_load_119 : decode cX13_load 119 = .ok (.iconst 1, 1) := by decide +kernel
theorem dX13_load_120 : decode cX13_load 120 = .ok (.isub, 1) := by decide +kernel
theorem dX13_load_121 : decode cX13_load 121 = .ok (.dup2, 1) := by decide +kernel
theorem dX13_load_122 : decode cX13_load 122 = .ok (.iaload, 1) := by decide +kernel
theorem dX13_load_123 : decode cX13_load 123 = .ok (.iconst 1, 1) := by decide +kernel
theorem dX13_load_124 : decode cX13_load 124 = .ok (.iadd, 1) := by decide +kernel
theorem dX13_load_125 : decode cX13_load 125 = .ok (.iastore, 1) := by decide +kernel
theorem dX13_load_126 : decode cX13_load 126 = .ok (.iinc 1 1, 3) := by decide +kernel
theorem dX13_load_129 : decode cX13_load 129 = .ok (.goto (-94), 3) := by decide +kernel
theorem dX13_load_132 : decode cX13_load 132 = .ok (.aload_n 0, 1) := by decide +kernel
theorem dX13_load_133 : decode cX13_load 133 = .ok (.iconst 0, 1) := by decide +kernel
theorem dX13_load_134 : decode cX13_load 134 = .ok (.putfield 1040, 3) := by decide +kernel
theorem dX13_load_137 : decode cX13_load 137 = .ok (.aload_n 0, 1) := by decide +kernel
theorem dX13_load_138 : decode cX13_load 138 = .ok (.iconst 0, 1) := by decide +kernel
theorem dX13_load_139 : decode cX13_load 139 = .ok (.putfield 466, 3) := by decide +kernel
theorem dX13_load_142 : decode cX13_load 142 = .ok (.aload_n 0, 1) := by decide +kernel
theorem dX13_load_143 : decode cX13_load 143 = .ok (.iconst 0, 1) := by decide +kernel
theorem dX13_load_144 : decode cX13_load 144 = .ok (.iconst 0, 1) := by decide +kernel
theorem dX13_load_145 : decode cX13_load 145 = .ok (.invokevirtual 226, 3) := by decide +kernel
theorem dX13_load_148 : decode cX13_load 148 = .ok (.aload_n 0, 1) := by decide +kernel
theorem dX13_load_149 : decode cX13_load 149 = .ok (.invokevirtual 678, 3) := by decide +kernel
theorem dX13_load_152 : decode cX13_load 152 = .ok (.aload_n 0, 1) := by decide +kernel
theorem dX13_load_153 : decode cX13_load 153 = .ok (.iconst 0, 1) := by decide +kernel
theorem dX13_load_154 : decode cX13_load 154 = .ok (.putfield 998, 3) := by decide +kernel
theorem dX13_load_157 : decode cX13_load 157 = .ok (.aload_n 0, 1) := by decide +kernel
theorem dX13_load_158 : decode cX13_load 158 = .ok (.iconst (-1), 1) := by decide +kernel
theorem dX13_load_159 : decode cX13_load 159 = .ok (.putfield 114, 3) := by decide +kernel
theorem dX13_load_162 : decode cX13_load 162 = .ok (.iconst 0, 1) := by decide +kernel
theorem dX13_load_163 : decode cX13_load 163 = .ok (.istore_n 1, 1) := by decide +kernel
theorem dX13_load_164 : decode cX13_load 164 = .ok (.iload_n 1, 1) := by decide +kernel
theorem dX13_load_165 : decode cX13_load 165 = .ok (.bipush 26, 2) := by decide +kernel
theorem dX13_load_167 : decode cX13_load 167 = .ok (.if_icmp .ge 16, 3) := by decide +kernel
theorem dX13_load_170 : decode cX13_load 170 = .ok (.aload_n 0, 1) := by decide +kernel
theorem dX13_load_171 : decode cX13_load 171 = .ok (.getfield 33, 3) := by decide +kernel
theorem dX13_load_174 : decode cX13_load 174 = .ok (.iload_n 1, 1) := by decide +kernel
theorem dX13_load_175 : decode cX13_load 175 = .ok (.iconst (-1), 1) := by decide +kernel
theorem dX13_load_176 : decode cX13_load 176 = .ok (.iastore, 1) := by decide +kernel
theorem dX13_load_177 : decode cX13_load 177 = .ok (.iinc 1 1, 3) := by decide +kernel
theorem dX13_load_180 : decode cX13_load 180 = .ok (.goto (-16), 3) := by decide +kernel
theorem dX13_load_183 : decode cX13_load 183 = .ok (.aload_n 0, 1) := by decide +kernel
theorem dX13_load_184 : decode cX13_load 184 = .ok (.iconst 0, 1) := by decide +kernel
theorem dX13_load_185 : decode cX13_load 185 = .ok (.putfield 234, 3) := by decide +kernel
theorem dX13_load_188 : decode cX13_load 188 = .ok (.aload_n 0, 1) := by decide +kernel
theorem dX13_load_189 : decode cX13_load 189 = .ok (.iconst (-1), 1) := by decide +kernel
theorem dX13_load_190 : decode cX13_load 190 = .ok (.putfield 45, 3) := by decide +kernel
theorem dX13_load_193 : decode cX13_load 193 = .ok (.aload_n 0, 1) := by decide +kernel
theorem dX13_load_194 : decode cX13_load 194 = .ok (.iconst 0, 1) := by decide +kernel
theorem dX13_load_195 : decode cX13_load 195 = .ok (.putfield 237, 3) := by decide +kernel
theorem dX13_load_198 : decode cX13_load 198 = .ok (.iconst 0, 1) := by decide +kernel
theorem dX13_load_199 : decode cX13_load 199 = .ok (.istore_n 1, 1) := by decide +kernel
theorem dX13_load_200 : decode cX13_load 200 = .ok (.iload_n 1, 1) := by decide +kernel
theorem dX13_load_201 : decode cX13_load 201 = .ok (.sipush 1600, 3) := by decide +kernel
theorem dX13_load_204 : decode cX13_load 204 = .ok (.if_icmp .ge 23, 3) := by decide +kernel
theorem dX13_load_207 : decode cX13_load 207 = .ok (.aload_n 0, 1) := by decide +kernel
theorem dX13_load_208 : decode cX13_load 208 = .ok (.getfield 48, 3) := by decide +kernel
theorem dX13_load_211 : decode cX13_load 211 = .ok (.iload_n 1, 1) := by decide +kernel
theorem dX13_load_212 : decode cX13_load 212 = .ok (.iconst 0, 1) := by decide +kernel
theorem dX13_load_213 : decode cX13_load 213 = .ok (.iastore, 1) := by decide +kernel
theorem dX13_load_214 : decode cX13_load 214 = .ok (.aload_n 0, 1) := by decide +kernel
theorem dX13_load_215 : decode cX13_load 215 = .ok (.getfield 51, 3) := by decide +kernel
theorem dX13_load_218 : decode cX13_load 218 = .ok (.iload_n 1, 1) := by decide +kernel
theorem dX13_load_219 : decode cX13_load 219 = .ok (.iconst 0, 1) := by decide +kernel
theorem dX13_load_220 : decode cX13_load 220 = .ok (.iastore, 1) := by decide +kernel
theorem dX13_load_221 : decode cX13_load 221 = .ok (.iinc 1 1, 3) := by decide +kernel
theorem dX13_load_224 : decode cX13_load 224 = .ok (.goto (-24), 3) := by decide +kernel
theorem dX13_load_227 : decode cX13_load 227 = .ok (.aload_n 0, 1) := by decide +kernel
theorem dX13_load_228 : decode cX13_load 228 = .ok (.iconst 0, 1) := by decide +kernel
theorem dX13_load_229 : decode cX13_load 229 = .ok (.putfield 244, 3) := by decide +kernel
theorem dX13_load_232 : decode cX13_load 232 = .ok (.aload_n 0, 1) := by decide +kernel
theorem dX13_load_233 : decode cX13_load 233 = .ok (.iconst 1, 1) := by decide +kernel
theorem dX13_load_234 : decode cX13_load 234 = .ok (.putfield 60, 3) := by decide +kernel
theorem dX13_load_237 : decode cX13_load 237 = .ok (.aload_n 0, 1) := by decide +kernel
theorem dX13_load_238 : decode cX13_load 238 = .ok (.iconst 0, 1) := by decide +kernel
theorem dX13_load_239 : decode cX13_load 239 = .ok (.putfield 572, 3) := by decide +kernel
theorem dX13_load_242 : decode cX13_load 242 = .ok (.aload_n 0, 1) := by decide +kernel
theorem dX13_load_243 : decode cX13_load 243 = .ok (.getfield 73, 3) := by decide +kernel
theorem dX13_load_246 : decode cX13_load 246 = .ok (.iconst 0, 1) := by decide +kernel
theorem dX13_load_247 : decode cX13_load 247 = .ok (.iconst (-1), 1) := by decide +kernel
theorem dX13_load_248 : decode cX13_load 248 = .ok (.iastore, 1) := by decide +kernel
theorem dX13_load_249 : decode cX13_load 249 = .ok (.aload_n 0, 1) := by decide +kernel
theorem dX13_load_250 : decode cX13_load 250 = .ok (.iconst 0, 1) := by decide +kernel
theorem dX13_load_251 : decode cX13_load 251 = .ok (.invokevirtual 191, 3) := by decide +kernel
theorem dX13_load_254 : decode cX13_load 254 = .ok (.aload_n 0, 1) := by decide +kernel
theorem dX13_load_255 : decode cX13_load 255 = .ok (.getfield 13, 3) := by decide +kernel
theorem dX13_load_258 : decode cX13_load 258 = .ok (.ireturn, 1) := by decide +kernel
theorem dX13_setWrap_0 : decode cX13_setWrap 0 = .ok (.aload_n 0, 1) := by decide +kernel
theorem dX13_setWrap_1 : decode cX13_setWrap 1 = .ok (.iconst 0, 1) := by decide +kernel
theorem dX13_setWrap_2 : decode cX13_setWrap 2 = .ok (.putfield 195, 3) := by decide +kernel
theorem dX13_setWrap_5 : decode cX13_setWrap 5 = .ok (.aload_n 0, 1) := by decide +kernel
theorem dX13_setWrap_6 : decode cX13_setWrap 6 = .ok (.getfield 76, 3) := by decide +kernel
theorem dX13_setWrap_9 : decode cX13_setWrap 9 = .ok (.istore_n 2, 1) := by decide +kernel
theorem dX13_setWrap_10 : decode cX13_setWrap 10 = .ok (.aload_n 0, 1) := by decide +kernel
theorem dX13_setWrap_11 : decode cX13_setWrap 11 = .ok (.iload_n 1, 1) := by decide +kernel
theorem dX13_setWrap_12 : decode cX13_setWrap 12 = .ok (.putfield 76, 3) := by decide +kernel
theorem dX13_setWrap_15 : decode cX13_setWrap 15 = .ok (.iload_n 2, 1) := by decide +kernel
theorem dX13_setWrap_16 : decode cX13_setWrap 16 = .ok (.ireturn, 1) := by decide +kernel
theorem dX13_lines_0 : decode cX13_lines 0 = .ok (.aload_n 0, 1) := by decide +kernel
theorem dX13_lines_1 : decode cX13_lines 1 = .ok (.iconst 0, 1) := by decide +kernel
theorem dX13_lines_2 : decode cX13_lines 2 = .ok (.putfield 195, 3) := by decide +kernel
theorem dX13_lines_5 : decode cX13_lines 5 = .ok (.aload_n 0, 1) := by decide +kernel
theorem dX13_lines_6 : decode cX13_lines 6 = .ok (.getfield 13, 3) := by decide +kernel
theorem dX13_lines_9 : decode cX13_lines 9 = .ok (.ireturn, 1) := by decide +kernel
theorem dX13_isLine_0 : decode cX13_isLine 0 = .ok (.iload_n 1, 1) := by decide +kernel
theorem dX13_isLine_1 : decode cX13_isLine 1 = .ok (.iconst 0, 1) := by decide +kernel
theorem dX13_isLine_2 : decode cX13_isLine 2 = .ok (.aload_n 0, 1) := by decide +kernel
theorem dX13_isLine_3 : decode cX13_isLine 3 = .ok (.getfield 13, 3) := by decide +kernel
theorem dX13_isLine_6 : decode cX13_isLine 6 = .ok (.iconst 1, 1) := by decide +kernel
theorem dX13_isLine_7 : decode cX13_isLine 7 = .ok (.isub, 1) := by decide +kernel
theorem dX13_isLine_8 : decode cX13_isLine 8 = .ok (.invokestatic 198, 3) := by decide +kernel
theorem dX13_isLine_11 : decode cX13_isLine 11 = .ok (.ireturn, 1) := by decide +kernel
theorem dX13_length_0 : decode cX13_length 0 = .ok (.aload_n 0, 1) := by decide +kernel
theorem dX13_length_1 : decode cX13_length 1 = .ok (.aload_n 0, 1) := by decide +kernel
theorem dX13_length_2 : decode cX13_length 2 = .ok (.iload_n 1, 1) := by decide +kernel
theorem dX13_length_3 : decode cX13_length 3 = .ok (.invokevirtual 1070, 3) := by decide +kernel
theorem dX13_length_6 : decode cX13_length 6 = .ok (.ifCond .eq 7, 3) := by decide +kernel
theorem dX13_length_9 : decode cX13_length 9 = .ok (.iconst 0, 1) := by decide +kernel
theorem dX13_length_10 : decode cX13_length 10 = .ok (.goto 4, 3) := by decide +kernel
theorem dX13_length_13 : decode cX13_length 13 = .ok (.iconst 1, 1) := by decide +kernel
theorem dX13_length_14 : decode cX13_length 14 = .ok (.invokevirtual 1043, 3) := by decide +kernel
theorem dX13_length_17 : decode cX13_length 17 = .ok (.ifCond .eq 12, 3) := by decide +kernel
theorem dX13_length_20 : decode cX13_length 20 = .ok (.aload_n 0, 1) := by decide +kernel
theorem dX13_length_21 : decode cX13_length 21 = .ok (.getfield 17, 3) := by decide +kernel
theorem dX13_length_24 : decode cX13_length 24 = .ok (.iload_n 1, 1) := by decide +kernel
theorem dX13_length_25 : decode cX13_length 25 = .ok (.iaload, 1) := by decide +kernel
theorem dX13_length_26 : decode cX13_length 26 = .ok (.goto 4, 3) := by decide +kernel
theorem dX13_length_29 : decode cX13_length 29 = .ok (.iconst 0, 1) := by decide +kernel
theorem dX13_length_30 : decode cX13_length 30 = .ok (.ireturn, 1) := by decide +kernel
theorem dX13_line_0 : decode cX13_line 0 = .ok (.aload_n 0, 1) := by decide +kernel
theorem dX13_line_1 : decode cX13_line 1 = .ok (.iconst 0, 1) := by decide +kernel
theorem dX13_line_2 : decode cX13_line 2 = .ok (.putfield 195, 3) := by decide +kernel
theorem dX13_line_5 : decode cX13_line 5 = .ok (.aload_n 0, 1) := by decide +kernel
theorem dX13_line_6 : decode cX13_line 6 = .ok (.getfield 213, 3) := by decide +kernel
theorem dX13_line_9 : decode cX13_line 9 = .ok (.ireturn, 1) := by decide +kernel
theorem dX13_column_0 : decode cX13_column 0 = .ok (.aload_n 0, 1) := by decide +kernel
theorem dX13_column_1 : decode cX13_column 1 = .ok (.iconst 0, 1) := by decide +kernel
theorem dX13_column_2 : decode cX13_column 2 = .ok (.putfield 195, 3) := by decide +kernel
theorem dX13_column_5 : decode cX13_column 5 = .ok (.aload_n 0, 1) := by decide +kernel
theorem dX13_column_6 : decode cX13_column 6 = .ok (.getfield 216, 3) := by decide +kernel
theorem dX13_column_9 : decode cX13_column 9 = .ok (.ireturn, 1) := by decide +kernel
theorem dX13_mode_0 : decode cX13_mode 0 = .ok (.aload_n 0, 1) := by decide +kernel
theorem dX13_mode_1 : decode cX13_mode 1 = .ok (.iconst 0, 1) := by decide +kernel
theorem dX13_mode_2 : decode cX13_mode 2 = .ok (.putfield 195, 3) := by decide +kernel
theorem dX13_mode_5 : decode cX13_mode 5 = .ok (.aload_n 0, 1) := by decide +kernel
theorem dX13_mode_6 : decode cX13_mode 6 = .ok (.getfield 466, 3) := by decide +kernel
theorem dX13_mode_9 : decode cX13_mode 9 = .ok (.ireturn, 1) := by decide +kernel
theorem dX13_given_0 : decode cX13_given 0 = .ok (.aload_n 0, 1) := by decide +kernel
theorem dX13_given_1 : decode cX13_given 1 = .ok (.iconst 0, 1) := by decide +kernel
theorem dX13_given_2 : decode cX13_given 2 = .ok (.putfield 195, 3) := by decide +kernel
theorem dX13_given_5 : decode cX13_given 5 = .ok (.aload_n 0, 1) := by decide +kernel
theorem dX13_given_6 : decode cX13_given 6 = .ok (.getfield 466, 3) := by decide +kernel
theorem dX13_given_9 : decode cX13_given 9 = .ok (.iconst 5, 1) := by decide +kernel
theorem dX13_given_10 : decode cX13_given 10 = .ok (.if_icmp .ne 10, 3) := by decide +kernel
theorem dX13_given_13 : decode cX13_given 13 = .ok (.aload_n 0, 1) := by decide +kernel
theorem dX13_given_14 : decode cX13_given 14 = .ok (.getfield 773, 3) := by decide +kernel
theorem dX13_given_17 : decode cX13_given 17 = .ok (.goto 12, 3) := by decide +kernel
theorem dX13_given_20 : decode cX13_given 20 = .ok (.aload_n 0, 1) := by decide +kernel
theorem dX13_given_21 : decode cX13_given 21 = .ok (.getfield 609, 3) := by decide +kernel
theorem dX13_given_24 : decode cX13_given 24 = .ok (.aload_n 0, 1) := by decide +kernel
theorem dX13_given_25 : decode cX13_given 25 = .ok (.getfield 675, 3) := by decide +kernel
theorem dX13_given_28 : decode cX13_given 28 = .ok (.iadd, 1) := by decide +kernel
theorem dX13_given_29 : decode cX13_given 29 = .ok (.ireturn, 1) := by decide +kernel
theorem dX13_waiting_0 : decode cX13_waiting 0 = .ok (.aload_n 0, 1) := by decide +kernel
theorem dX13_waiting_1 : decode cX13_waiting 1 = .ok (.iconst 0, 1) := by decide +kernel
theorem dX13_waiting_2 : decode cX13_waiting 2 = .ok (.putfield 195, 3) := by decide +kernel
theorem dX13_waiting_5 : decode cX13_waiting 5 = .ok (.aload_n 0, 1) := by decide +kernel
theorem dX13_waiting_6 : decode cX13_waiting 6 = .ok (.getfield 998, 3) := by decide +kernel
theorem dX13_waiting_9 : decode cX13_waiting 9 = .ok (.ireturn, 1) := by decide +kernel
theorem dX13_cursors_0 : decode cX13_cursors 0 = .ok (.aload_n 0, 1) := by decide +kernel
theorem dX13_cursors_1 : decode cX13_cursors 1 = .ok (.iconst 0, 1) := by decide +kernel
theorem dX13_cursors_2 : decode cX13_cursors 2 = .ok (.putfield 195, 3) := by decide +kernel
theorem dX13_cursors_5 : decode cX13_cursors 5 = .ok (.aload_n 0, 1) := by decide +kernel
theorem dX13_cursors_6 : decode cX13_cursors 6 = .ok (.getfield 244, 3) := by decide +kernel
theorem dX13_cursors_9 : decode cX13_cursors 9 = .ok (.ireturn, 1) := by decide +kernel
theorem dX13_cursorAt_0 : decode cX13_cursorAt 0 = .ok (.aload_n 0, 1) := by decide +kernel
theorem dX13_cursorAt_1 : decode cX13_cursorAt 1 = .ok (.iload_n 1, 1) := by decide +kernel
theorem dX13_cursorAt_2 : decode cX13_cursorAt 2 = .ok (.iconst 0, 1) := by decide +kernel
theorem dX13_cursorAt_3 : decode cX13_cursorAt 3 = .ok (.aload_n 0, 1) := by decide +kernel
theorem dX13_cursorAt_4 : decode cX13_cursorAt 4 = .ok (.getfield 244, 3) := by decide +kernel
theorem dX13_cursorAt_7 : decode cX13_cursorAt 7 = .ok (.iconst 1, 1) := by decide +kernel
theorem dX13_cursorAt_8 : decode cX13_cursorAt 8 = .ok (.isub, 1) := by decide +kernel
theorem dX13_cursorAt_9 : decode cX13_cursorAt 9 = .ok (.invokestatic 198, 3) := by decide +kernel
theorem dX13_cursorAt_12 : decode cX13_cursorAt 12 = .ok (.ifCond .eq 7, 3) := by decide +kernel
theorem dX13_cursorAt_15 : decode cX13_cursorAt 15 = .ok (.iconst 0, 1) := by decide +kernel
theorem dX13_cursorAt_16 : decode cX13_cursorAt 16 = .ok (.goto 4, 3) := by decide +kernel
theorem dX13_cursorAt_19 : decode cX13_cursorAt 19 = .ok (.iconst 1, 1) := by decide +kernel
theorem dX13_cursorAt_20 : decode cX13_cursorAt 20 = .ok (.invokevirtual 1043, 3) := by decide +kernel
theorem dX13_cursorAt_23 : decode cX13_cursorAt 23 = .ok (.ifCond .ne 5, 3) := by decide +kernel
theorem dX13_cursorAt_26 : decode cX13_cursorAt 26 = .ok (.iconst 0, 1) := by decide +kernel
theorem dX13_cursorAt_27 : decode cX13_cursorAt 27 = .ok (.ireturn, 1) := by decide +kernel
theorem dX13_cursorAt_28 : decode cX13_cursorAt 28 = .ok (.bipush 100, 2) := by decide +kernel
theorem dX13_cursorAt_30 : decode cX13_cursorAt 30 = .ok (.aload_n 0, 1) := by decide +kernel
theorem dX13_cursorAt_31 : decode cX13_cursorAt 31 = .ok (.getfield 54, 3) := by decide +kernel
theorem dX13_cursorAt_34 : decode cX13_cursorAt 34 = .ok (.iload_n 1, 1) := by decide +kernel
theorem dX13_cursorAt_35 : decode cX13_cursorAt 35 = .ok (.iaload, 1) := by decide +kernel
theorem dX13_cursorAt_36 : decode cX13_cursorAt 36 = .ok (.imul, 1) := by decide +kernel
theorem dX13_cursorAt_37 : decode cX13_cursorAt 37 = .ok (.aload_n 0, 1) := by decide +kernel
theorem dX13_cursorAt_38 : decode cX13_cursorAt 38 = .ok (.getfield 57, 3) := by decide +kernel
theorem dX13_cursorAt_41 : decode cX13_cursorAt 41 = .ok (.iload_n 1, 1) := by decide +kernel
theorem dX13_cursorAt_42 : decode cX13_cursorAt 42 = .ok (.iaload, 1) := by decide +kernel
theorem dX13_cursorAt_43 : decode cX13_cursorAt 43 = .ok (.iadd, 1) := by decide +kernel
theorem dX13_cursorAt_44 : decode cX13_cursorAt 44 = .ok (.ireturn, 1) := by decide +kernel
theorem dX13_isRegister_0 : decode cX13_isRegister 0 = .ok (.iload_n 0, 1) := by decide +kernel
theorem dX13_isRegister_1 : decode cX13_isRegister 1 = .ok (.bipush 97, 2) := by decide +kernel
theorem dX13_isRegister_3 : decode cX13_isRegister 3 = .ok (.bipush 122, 2) := by decide +kernel
theorem dX13_isRegister_5 : decode cX13_isRegister 5 = .ok (.invokestatic 198, 3) := by decide +kernel
theorem dX13_isRegister_8 : decode cX13_isRegister 8 = .ok (.ifCond .ne 26, 3) := by decide +kernel
theorem dX13_isRegister_11 : decode cX13_isRegister 11 = .ok (.iload_n 0, 1) := by decide +kernel
theorem dX13_isRegister_12 : decode cX13_isRegister 12 = .ok (.bipush 48, 2) := by decide +kernel
theorem dX13_isRegister_14 : decode cX13_isRegister 14 = .ok (.bipush 57, 2) := by decide +kernel
theorem dX13_isRegister_16 : decode cX13_isRegister 16 = .ok (.invokestatic 198, 3) := by decide +kernel
theorem dX13_isRegister_19 : decode cX13_isRegister 19 = .ok (.ifCond .ne 15, 3) := by decide +kernel
theorem dX13_isRegister_22 : decode cX13_isRegister 22 = .ok (.iload_n 0, 1) := by decide +kernel
theorem dX13_isRegister_23 : decode cX13_isRegister 23 = .ok (.bipush 45, 2) := by decide +kernel
theorem dX13_isRegister_25 : decode cX13_isRegister 25 = .ok (.if_icmp .eq 9, 3) := by decide +kernel
theorem dX13_isRegister_28 : decode cX13_isRegister 28 = .ok (.iload_n 0, 1) := by decide +kernel
theorem dX13_isRegister_29 : decode cX13_isRegister 29 = .ok (.bipush 34, 2) := by decide +kernel
theorem dX13_isRegister_31 : decode cX13_isRegister 31 = .ok (.if_icmp .ne 7, 3) := by decide +kernel
theorem dX13_isRegister_34 : decode cX13_isRegister 34 = .ok (.iconst 1, 1) := by decide +kernel
theorem dX13_isRegister_35 : decode cX13_isRegister 35 = .ok (.goto 4, 3) := by decide +kernel
theorem dX13_isRegister_38 : decode cX13_isRegister 38 = .ok (.iconst 0, 1) := by decide +kernel
theorem dX13_isRegister_39 : decode cX13_isRegister 39 = .ok (.ireturn, 1) := by decide +kernel
theorem dX13_registerKind_0 : decode cX13_registerKind 0 = .ok (.aload_n 0, 1) := by decide +kernel
theorem dX13_registerKind_1 : decode cX13_registerKind 1 = .ok (.iload_n 1, 1) := by decide +kernel
theorem dX13_registerKind_2 : decode cX13_registerKind 2 = .ok (.invokestatic 1073, 3) := by decide +kernel
theorem dX13_registerKind_5 : decode cX13_registerKind 5 = .ok (.ifCond .eq 7, 3) := by decide +kernel
theorem dX13_registerKind_8 : decode cX13_registerKind 8 = .ok (.iconst 0, 1) := by decide +kernel
theorem dX13_registerKind_9 : decode cX13_registerKind 9 = .ok (.goto 4, 3) := by decide +kernel
theorem dX13_registerKind_12 : decode cX13_registerKind 12 = .ok (.iconst 1, 1) := by decide +kernel
theorem dX13_registerKind_13 : decode cX13_registerKind 13 = .ok (.invokevirtual 1043, 3) := by decide +kernel
theorem dX13_registerKind_16 : decode cX13_registerKind 16 = .ok (.ifCond .eq 15, 3) := by decide +kernel
theorem dX13_registerKind_19 : decode cX13_registerKind 19 = .ok (.aload_n 0, 1) := by decide +kernel
theorem dX13_registerKind_20 : decode cX13_registerKind 20 = .ok (.getfield 23, 3) := by decide +kernel
theorem dX13_registerKind_23 : decode cX13_registerKind 23 = .ok (.iload_n 1, 1) := by decide +kernel
theorem dX13_registerKind_24 : decode cX13_registerKind 24 = .ok (.invokestatic 457, 3) := by decide +kernel
theorem dX13_registerKind_27 : decode cX13_registerKind 27 = .ok (.iaload, 1) := by decide +kernel
theorem dX13_registerKind_28 : decode cX13_registerKind 28 = .ok (.goto 4, 3) := by decide +kernel
theorem dX13_registerKind_31 : decode cX13_registerKind 31 = .ok (.iconst 0, 1) := by decide +kernel
theorem dX13_registerKind_32 : decode cX13_registerKind 32 = .ok (.ireturn, 1) := by decide +kernel
theorem dX13_registerLength_0 : decode cX13_registerLength 0 = .ok (.aload_n 0, 1) := by decide +kernel
theorem dX13_registerLength_1 : decode cX13_registerLength 1 = .ok (.iload_n 1, 1) := by decide +kernel
theorem dX13_registerLength_2 : decode cX13_registerLength 2 = .ok (.invokestatic 1073, 3) := by decide +kernel
theorem dX13_registerLength_5 : decode cX13_registerLength 5 = .ok (.ifCond .eq 7, 3) := by decide +kernel
theorem dX13_registerLength_8 : decode cX13_registerLength 8 = .ok (.iconst 0, 1) := by decide +kernel
theorem dX13_registerLength_9 : decode cX13_registerLength 9 = .ok (.goto 4, 3) := by decide +kernel
theorem dX13_registerLength_12 : decode cX13_registerLength 12 = .ok (.iconst 1, 1) := by decide +kernel
theorem dX13_registerLength_13 : decode cX13_registerLength 13 = .ok (.invokevirtual 1043, 3) := by decide +kernel
theorem dX13_registerLength_16 : decode cX13_registerLength 16 = .ok (.ifCond .eq 15, 3) := by decide +kernel
theorem dX13_registerLength_19 : decode cX13_registerLength 19 = .ok (.aload_n 0, 1) := by decide +kernel
theorem dX13_registerLength_20 : decode cX13_registerLength 20 = .ok (.getfield 26, 3) := by decide +kernel
theorem dX13_registerLength_23 : decode cX13_registerLength 23 = .ok (.iload_n 1, 1) := by decide +kernel
theorem dX13_registerLength_24 : decode cX13_registerLength 24 = .ok (.invokestatic 457, 3) := by decide +kernel
theorem dX13_registerLength_27 : decode cX13_registerLength 27 = .ok (.iaload, 1) := by decide +kernel
theorem dX13_registerLength_28 : decode cX13_registerLength 28 = .ok (.goto 4, 3) := by decide +kernel
theorem dX13_registerLength_31 : decode cX13_registerLength 31 = .ok (.iconst 0, 1) := by decide +kernel
theorem dX13_registerLength_32 : decode cX13_registerLength 32 = .ok (.ireturn, 1) := by decide +kernel
theorem dX13_mark_0 : decode cX13_mark 0 = .ok (.aload_n 0, 1) := by decide +kernel
theorem dX13_mark_1 : decode cX13_mark 1 = .ok (.iload_n 1, 1) := by decide +kernel
theorem dX13_mark_2 : decode cX13_mark 2 = .ok (.invokestatic 618, 3) := by decide +kernel
theorem dX13_mark_5 : decode cX13_mark 5 = .ok (.ifCond .eq 7, 3) := by decide +kernel
theorem dX13_mark_8 : decode cX13_mark 8 = .ok (.iconst 0, 1) := by decide +kernel
theorem dX13_mark_9 : decode cX13_mark 9 = .ok (.goto 4, 3) := by decide +kernel
theorem dX13_mark_12 : decode cX13_mark 12 = .ok (.iconst 1, 1) := by decide +kernel
theorem dX13_mark_13 : decode cX13_mark 13 = .ok (.invokevirtual 1043, 3) := by decide +kernel
theorem dX13_mark_16 : decode cX13_mark 16 = .ok (.ifCond .ne 5, 3) := by decide +kernel
theorem dX13_mark_19 : decode cX13_mark 19 = .ok (.iconst 0, 1) := by decide +kernel
theorem dX13_mark_20 : decode cX13_mark 20 = .ok (.ireturn, 1) := by decide +kernel
theorem dX13_mark_21 : decode cX13_mark 21 = .ok (.aload_n 0, 1) := by decide +kernel
theorem dX13_mark_22 : decode cX13_mark 22 = .ok (.getfield 33, 3) := by decide +kernel
theorem dX13_mark_25 : decode cX13_mark 25 = .ok (.iload_n 1, 1) := by decide +kernel
theorem dX13_mark_26 : decode cX13_mark 26 = .ok (.bipush 97, 2) := by decide +kernel
theorem dX13_mark_28 : decode cX13_mark 28 = .ok (.isub, 1) := by decide +kernel
theorem dX13_mark_29 : decode cX13_mark 29 = .ok (.iaload, 1) := by decide +kernel
theorem dX13_mark_30 : decode cX13_mark 30 = .ok (.istore_n 2, 1) := by decide +kernel
theorem dX13_mark_31 : decode cX13_mark 31 = .ok (.iload_n 2, 1) := by decide +kernel
theorem dX13_mark_32 : decode cX13_mark 32 = .ok (.iconst (-1), 1) := by decide +kernel
theorem dX13_mark_33 : decode cX13_mark 33 = .ok (.if_icmp .ne 7, 3) := by decide +kernel
theorem dX13_mark_36 : decode cX13_mark 36 = .ok (.iconst (-1), 1) := by decide +kernel
theorem dX13_mark_37 : decode cX13_mark 37 = .ok (.goto 17, 3) := by decide +kernel
theorem dX13_mark_40 : decode cX13_mark 40 = .ok (.bipush 100, 2) := by decide +kernel
theorem dX13_mark_42 : decode cX13_mark 42 = .ok (.iload_n 2, 1) := by decide +kernel
theorem dX13_mark_43 : decode cX13_mark 43 = .ok (.imul, 1) := by decide +kernel
theorem dX13_mark_44 : decode cX13_mark 44 = .ok (.aload_n 0, 1) := by decide +kernel
theorem dX13_mark_45 : decode cX13_mark 45 = .ok (.getfield 36, 3) := by decide +kernel
theorem dX13_mark_48 : decode cX13_mark 48 = .ok (.iload_n 1, 1) := by decide +kernel
theorem dX13_mark_49 : decode cX13_mark 49 = .ok (.bipush 97, 2) := by decide +kernel
theorem dX13_mark_51 : decode cX13_mark 51 = .ok (.isub, 1) := by decide +kernel
theorem dX13_mark_52 : decode cX13_mark 52 = .ok (.iaload, 1) := by decide +kernel
theorem dX13_mark_53 : decode cX13_mark 53 = .ok (.iadd, 1) := by decide +kernel
theorem dX13_mark_54 : decode cX13_mark 54 = .ok (.ireturn, 1) := by decide +kernel
theorem dX13_folds_0 : decode cX13_folds 0 = .ok (.aload_n 0, 1) := by decide +kernel
theorem dX13_folds_1 : decode cX13_folds 1 = .ok (.iconst 0, 1) := by decide +kernel
theorem dX13_folds_2 : decode cX13_folds 2 = .ok (.putfield 195, 3) := by decide +kernel
theorem dX13_folds_5 : decode cX13_folds 5 = .ok (.aload_n 0, 1) := by decide +kernel
theorem dX13_folds_6 : decode cX13_folds 6 = .ok (.getfield 237, 3) := by decide +kernel
theorem dX13_folds_9 : decode cX13_folds 9 = .ok (.ireturn, 1) := by decide +kernel
theorem dX13_foldOf_0 : decode cX13_foldOf 0 = .ok (.aload_n 0, 1) := by decide +kernel
theorem dX13_foldOf_1 : decode cX13_foldOf 1 = .ok (.aload_n 0, 1) := by decide +kernel
theorem dX13_foldOf_2 : decode cX13_foldOf 2 = .ok (.iload_n 1, 1) := by decide +kernel
theorem dX13_foldOf_3 : decode cX13_foldOf 3 = .ok (.invokevirtual 1070, 3) := by decide +kernel
theorem dX13_foldOf_6 : decode cX13_foldOf 6 = .ok (.ifCond .eq 7, 3) := by decide +kernel
theorem dX13_foldOf_9 : decode cX13_foldOf 9 = .ok (.iconst 0, 1) := by decide +kernel
theorem dX13_foldOf_10 : decode cX13_foldOf 10 = .ok (.goto 4, 3) := by decide +kernel
theorem dX13_foldOf_13 : decode cX13_foldOf 13 = .ok (.iconst 1, 1) := by decide +kernel
theorem dX13_foldOf_14 : decode cX13_foldOf 14 = .ok (.invokevirtual 1043, 3) := by decide +kernel
theorem dX13_foldOf_17 : decode cX13_foldOf 17 = .ok (.ifCond .ne 5, 3) := by decide +kernel
theorem dX13_foldOf_20 : decode cX13_foldOf 20 = .ok (.iconst 0, 1) := by decide +kernel
theorem dX13_foldOf_21 : decode cX13_foldOf 21 = .ok (.ireturn, 1) := by decide +kernel
theorem dX13_foldOf_22 : decode cX13_foldOf 22 = .ok (.aload_n 0, 1) := by decide +kernel
theorem dX13_foldOf_23 : decode cX13_foldOf 23 = .ok (.iload_n 1, 1) := by decide +kernel
theorem dX13_foldOf_24 : decode cX13_foldOf 24 = .ok (.invokevirtual 287, 3) := by decide +kernel
theorem dX13_foldOf_27 : decode cX13_foldOf 27 = .ok (.istore_n 2, 1) := by decide +kernel
theorem dX13_foldOf_28 : decode cX13_foldOf 28 = .ok (.iload_n 2, 1) := by decide +kernel
theorem dX13_foldOf_29 : decode cX13_foldOf 29 = .ok (.iconst (-1), 1) := by decide +kernel
theorem dX13_foldOf_30 : decode cX13_foldOf 30 = .ok (.if_icmp .ne 7, 3) := by decide +kernel
theorem dX13_foldOf_33 : decode cX13_foldOf 33 = .ok (.iconst (-1), 1) := by decide +kernel
theorem dX13_foldOf_34 : decode cX13_foldOf 34 = .ok (.goto 15, 3) := by decide +kernel
theorem dX13_foldOf_37 : decode cX13_foldOf 37 = .ok (.bipush 100, 2) := by decide +kernel
theorem dX13_foldOf_39 : decode cX13_foldOf 39 = .ok (.iload_n 2, 1) := by decide +kernel
theorem dX13_foldOf_40 : decode cX13_foldOf 40 = .ok (.bipush 40, 2) := by decide +kernel
theorem dX13_foldOf_42 : decode cX13_foldOf 42 = .ok (.idiv, 1) := by decide +kernel
theorem dX13_foldOf_43 : decode cX13_foldOf 43 = .ok (.imul, 1) := by decide +kernel
theorem dX13_foldOf_44 : decode cX13_foldOf 44 = .ok (.iload_n 2, 1) := by decide +kernel
theorem dX13_foldOf_45 : decode cX13_foldOf 45 = .ok (.bipush 40, 2) := by decide +kernel
theorem dX13_foldOf_47 : decode cX13_foldOf 47 = .ok (.irem, 1) := by decide +kernel
theorem dX13_foldOf_48 : decode cX13_foldOf 48 = .ok (.iadd, 1) := by decide +kernel
theorem dX13_foldOf_49 : decode cX13_foldOf 49 = .ok (.ireturn, 1) := by decide +kernel
theorem dX13_jumps_0 : decode cX13_jumps 0 = .ok (.aload_n 0, 1) := by decide +kernel
theorem dX13_jumps_1 : decode cX13_jumps 1 = .ok (.iconst 0, 1) := by decide +kernel
theorem dX13_jumps_2 : decode cX13_jumps 2 = .ok (.putfield 195, 3) := by decide +kernel
theorem dX13_jumps_5 : decode cX13_jumps 5 = .ok (.aload_n 0, 1) := by decide +kernel
theorem dX13_jumps_6 : decode cX13_jumps 6 = .ok (.getfield 234, 3) := by decide +kernel
theorem dX13_jumps_9 : decode cX13_jumps 9 = .ok (.ireturn, 1) := by decide +kernel
theorem dX13_state_0 : decode cX13_state 0 = .ok (.aload_n 0, 1) := by decide +kernel
theorem dX13_state_1 : decode cX13_state 1 = .ok (.iconst 0, 1) := by decide +kernel
theorem dX13_state_2 : decode cX13_state 2 = .ok (.putfield 195, 3) := by decide +kernel
theorem dX13_state_5 : decode cX13_state 5 = .ok (.aload_n 0, 1) := by decide +kernel
theorem dX13_state_6 : decode cX13_state 6 = .ok (.getfield 572, 3) := by decide +kernel
theorem dX13_state_9 : decode cX13_state 9 = .ok (.ireturn, 1) := by decide +kernel
theorem dX13_states_0 : decode cX13_states 0 = .ok (.aload_n 0, 1) := by decide +kernel
theorem dX13_states_1 : decode cX13_states 1 = .ok (.iconst 0, 1) := by decide +kernel
theorem dX13_states_2 : decode cX13_states 2 = .ok (.putfield 195, 3) := by decide +kernel
theorem dX13_states_5 : decode cX13_states 5 = .ok (.aload_n 0, 1) := by decide +kernel
theorem dX13_states_6 : decode cX13_states 6 = .ok (.getfield 60, 3) := by decide +kernel
theorem dX13_states_9 : decode cX13_states 9 = .ok (.ireturn, 1) := by decide +kernel
theorem dX13_parent_0 : decode cX13_parent 0 = .ok (.aload_n 0, 1) := by decide +kernel
theorem dX13_parent_1 : decode cX13_parent 1 = .ok (.iload_n 1, 1) := by decide +kernel
theorem dX13_parent_2 : decode cX13_parent 2 = .ok (.iconst 0, 1) := by decide +kernel
theorem dX13_parent_3 : decode cX13_parent 3 = .ok (.aload_n 0, 1) := by decide +kernel
theorem dX13_parent_4 : decode cX13_parent 4 = .ok (.getfield 60, 3) := by decide +kernel
theorem dX13_parent_7 : decode cX13_parent 7 = .ok (.iconst 1, 1) := by decide +kernel
theorem dX13_parent_8 : decode cX13_parent 8 = .ok (.isub, 1) := by decide +kernel
theorem dX13_parent_9 : decode cX13_parent 9 = .ok (.invokestatic 198, 3) := by decide +kernel
theorem dX13_parent_12 : decode cX13_parent 12 = .ok (.ifCond .eq 7, 3) := by decide +kernel
theorem dX13_parent_15 : decode cX13_parent 15 = .ok (.iconst 0, 1) := by decide +kernel
theorem dX13_parent_16 : decode cX13_parent 16 = .ok (.goto 4, 3) := by decide +kernel
theorem dX13_parent_19 : decode cX13_parent 19 = .ok (.iconst 1, 1) := by decide +kernel
theorem dX13_parent_20 : decode cX13_parent 20 = .ok (.invokevirtual 1043, 3) := by decide +kernel
theorem dX13_parent_23 : decode cX13_parent 23 = .ok (.ifCond .eq 12, 3) := by decide +kernel
theorem dX13_parent_26 : decode cX13_parent 26 = .ok (.aload_n 0, 1) := by decide +kernel
theorem dX13_parent_27 : decode cX13_parent 27 = .ok (.getfield 73, 3) := by decide +kernel
theorem dX13_parent_30 : decode cX13_parent 30 = .ok (.iload_n 1, 1) := by decide +kernel
theorem dX13_parent_31 : decode cX13_parent 31 = .ok (.iaload, 1) := by decide +kernel
theorem dX13_parent_32 : decode cX13_parent 32 = .ok (.goto 4, 3) := by decide +kernel
theorem dX13_parent_35 : decode cX13_parent 35 = .ok (.iconst 0, 1) := by decide +kernel
theorem dX13_parent_36 : decode cX13_parent 36 = .ok (.ireturn, 1) := by decide +kernel
theorem dX13_failures_0 : decode cX13_failures 0 = .ok (.aload_n 0, 1) := by decide +kernel
theorem dX13_failures_1 : decode cX13_failures 1 = .ok (.iconst 0, 1) := by decide +kernel
theorem dX13_failures_2 : decode cX13_failures 2 = .ok (.putfield 195, 3) := by decide +kernel
theorem dX13_failures_5 : decode cX13_failures 5 = .ok (.aload_n 0, 1) := by decide +kernel
theorem dX13_failures_6 : decode cX13_failures 6 = .ok (.getfield 684, 3) := by decide +kernel
theorem dX13_failures_9 : decode cX13_failures 9 = .ok (.ireturn, 1) := by decide +kernel
theorem dX13_taken_0 : decode cX13_taken 0 = .ok (.aload_n 0, 1) := by decide +kernel
theorem dX13_taken_1 : decode cX13_taken 1 = .ok (.iconst 0, 1) := by decide +kernel
theorem dX13_taken_2 : decode cX13_taken 2 = .ok (.putfield 195, 3) := by decide +kernel
theorem dX13_taken_5 : decode cX13_taken 5 = .ok (.aload_n 0, 1) := by decide +kernel
theorem dX13_taken_6 : decode cX13_taken 6 = .ok (.getfield 989, 3) := by decide +kernel
theorem dX13_taken_9 : decode cX13_taken 9 = .ok (.ireturn, 1) := by decide +kernel
theorem dX13_agrees_0 : decode cX13_agrees 0 = .ok (.aload_n 0, 1) := by decide +kernel
theorem dX13_agrees_1 : decode cX13_agrees 1 = .ok (.iconst 0, 1) := by decide +kernel
theorem dX13_agrees_2 : decode cX13_agrees 2 = .ok (.putfield 195, 3) := by decide +kernel
theorem dX13_agrees_5 : decode cX13_agrees 5 = .ok (.iconst 1, 1) := by decide +kernel
theorem dX13_agrees_6 : decode cX13_agrees 6 = .ok (.ireturn, 1) := by decide +kernel

theorem dX0_clear_0 : decode cX0_clear 0 = .ok (.aload_n 0, 1) := by decide +kernel
theorem dX0_clear_1 : decode cX0_clear 1 = .ok (.getfield 14, 3) := by decide +kernel
theorem dX0_clear_4 : decode cX0_clear 4 = .ok (.invokevirtual 20, 3) := by decide +kernel
theorem dX0_clear_7 : decode cX0_clear 7 = .ok (.aload_n 0, 1) := by decide +kernel
theorem dX0_clear_8 : decode cX0_clear 8 = .ok (.iconst 0, 1) := by decide +kernel
theorem dX0_clear_9 : decode cX0_clear 9 = .ok (.putfield 23, 3) := by decide +kernel
theorem dX0_clear_12 : decode cX0_clear 12 = .ok (.aload_n 0, 1) := by decide +kernel
theorem dX0_clear_13 : decode cX0_clear 13 = .ok (.iconst 0, 1) := by decide +kernel
theorem dX0_clear_14 : decode cX0_clear 14 = .ok (.putfield 27, 3) := by decide +kernel
theorem dX0_clear_17 : decode cX0_clear 17 = .ok (.aload_n 0, 1) := by decide +kernel
theorem dX0_clear_18 : decode cX0_clear 18 = .ok (.iconst 0, 1) := by decide +kernel
theorem dX0_clear_19 : decode cX0_clear 19 = .ok (.putfield 30, 3) := by decide +kernel
theorem dX0_clear_22 : decode cX0_clear 22 = .ok (.aload_n 0, 1) := by decide +kernel
theorem dX0_clear_23 : decode cX0_clear 23 = .ok (.iconst 0, 1) := by decide +kernel
theorem dX0_clear_24 : decode cX0_clear 24 = .ok (.putfield 33, 3) := by decide +kernel
theorem dX0_clear_27 : decode cX0_clear 27 = .ok (.aload_n 0, 1) := by decide +kernel
theorem dX0_clear_28 : decode cX0_clear 28 = .ok (.iconst 0, 1) := by decide +kernel
theorem dX0_clear_29 : decode cX0_clear 29 = .ok (.putfield 36, 3) := by decide +kernel
theorem dX0_clear_32 : decode cX0_clear 32 = .ok (.aload_n 0, 1) := by decide +kernel
theorem dX0_clear_33 : decode cX0_clear 33 = .ok (.iconst 0, 1) := by decide +kernel
theorem dX0_clear_34 : decode cX0_clear 34 = .ok (.putfield 39, 3) := by decide +kernel
theorem dX0_clear_37 : decode cX0_clear 37 = .ok (.aload_n 0, 1) := by decide +kernel
theorem dX0_clear_38 : decode cX0_clear 38 = .ok (.iconst 0, 1) := by decide +kernel
theorem dX0_clear_39 : decode cX0_clear 39 = .ok (.putfield 42, 3) := by decide +kernel
theorem dX0_clear_42 : decode cX0_clear 42 = .ok (.aload_n 0, 1) := by decide +kernel
theorem dX0_clear_43 : decode cX0_clear 43 = .ok (.iconst 0, 1) := by decide +kernel
theorem dX0_clear_44 : decode cX0_clear 44 = .ok (.putfield 45, 3) := by decide +kernel
theorem dX0_clear_47 : decode cX0_clear 47 = .ok (.aload_n 0, 1) := by decide +kernel
theorem dX0_clear_48 : decode cX0_clear 48 = .ok (.iconst 0, 1) := by decide +kernel
theorem dX0_clear_49 : decode cX0_clear 49 = .ok (.putfield 48, 3) := by decide +kernel
theorem dX0_clear_52 : decode cX0_clear 52 = .ok (.aload_n 0, 1) := by decide +kernel
theorem dX0_clear_53 : decode cX0_clear 53 = .ok (.iconst 0, 1) := by decide +kernel
theorem dX0_clear_54 : decode cX0_clear 54 = .ok (.putfield 51, 3) := by decide +kernel
theorem dX0_clear_57 : decode cX0_clear 57 = .ok (.aload_n 0, 1) := by decide +kernel
theorem dX0_clear_58 : decode cX0_clear 58 = .ok (.iconst 0, 1) := by decide +kernel
theorem dX0_clear_59 : decode cX0_clear 59 = .ok (.putfield 54, 3) := by decide +kernel
theorem dX0_clear_62 : decode cX0_clear 62 = .ok (.aload_n 0, 1) := by decide +kernel
theorem dX0_clear_63 : decode cX0_clear 63 = .ok (.iconst 0, 1) := by decide +kernel
theorem dX0_clear_64 : decode cX0_clear 64 = .ok (.putfield 57, 3) := by decide +kernel
theorem dX0_clear_67 : decode cX0_clear 67 = .ok (.aload_n 0, 1) := by decide +kernel
theorem dX0_clear_68 : decode cX0_clear 68 = .ok (.iconst 0, 1) := by decide +kernel
theorem dX0_clear_69 : decode cX0_clear 69 = .ok (.putfield 60, 3) := by decide +kernel
theorem dX0_clear_72 : decode cX0_clear 72 = .ok (.aload_n 0, 1) := by decide +kernel
theorem dX0_clear_73 : decode cX0_clear 73 = .ok (.iconst 0, 1) := by decide +kernel
theorem dX0_clear_74 : decode cX0_clear 74 = .ok (.putfield 63, 3) := by decide +kernel
theorem dX0_clear_77 : decode cX0_clear 77 = .ok (.return_, 1) := by decide +kernel
theorem dX0_canBeDoneOnceMore_0 : decode cX0_canBeDoneOnceMore 0 = .ok (.aload_n 0, 1) := by decide +kernel
theorem dX0_canBeDoneOnceMore_1 : decode cX0_canBeDoneOnceMore 1 = .ok (.getfield 71, 3) := by decide +kernel
theorem dX0_canBeDoneOnceMore_4 : decode cX0_canBeDoneOnceMore 4 = .ok (.ifCond .ne 54, 3) := by decide +kernel
theorem dX0_canBeDoneOnceMore_7 : decode cX0_canBeDoneOnceMore 7 = .ok (.aload_n 0, 1) := by decide +kernel
theorem dX0_canBeDoneOnceMore_8 : decode cX0_canBeDoneOnceMore 8 = .ok (.getfield 54, 3) := by decide +kernel
theorem dX0_canBeDoneOnceMore_11 : decode cX0_canBeDoneOnceMore 11 = .ok (.bipush 117, 2) := by decide +kernel
theorem dX0_canBeDoneOnceMore_13 : decode cX0_canBeDoneOnceMore 13 = .ok (.if_icmp .eq 45, 3) := by decide +kernel
theorem dX0_canBeDoneOnceMore_16 : decode cX0_canBeDoneOnceMore 16 = .ok (.aload_n 0, 1) := by decide +kernel
theorem dX0_canBeDoneOnceMore_17 : decode cX0_canBeDoneOnceMore 17 = .ok (.getfield 54, 3) := by decide +kernel
theorem dX0_canBeDoneOnceMore_20 : decode cX0_canBeDoneOnceMore 20 = .ok (.bipush 18, 2) := by decide +kernel
theorem dX0_canBeDoneOnceMore_22 : decode cX0_canBeDoneOnceMore 22 = .ok (.if_icmp .eq 36, 3) := by decide +kernel
theorem dX0_canBeDoneOnceMore_25 : decode cX0_canBeDoneOnceMore 25 = .ok (.aload_n 0, 1) := by decide +kernel
theorem dX0_canBeDoneOnceMore_26 : decode cX0_canBeDoneOnceMore 26 = .ok (.getfield 54, 3) := by decide +kernel
theorem dX0_canBeDoneOnceMore_29 : decode cX0_canBeDoneOnceMore 29 = .ok (.sipush 26413, 3) := by decide +kernel
theorem dX0_canBeDoneOnceMore_32 : decode cX0_canBeDoneOnceMore 32 = .ok (.if_icmp .eq 26, 3) := by decide +kernel
theorem dX0_canBeDoneOnceMore_35 : decode cX0_canBeDoneOnceMore 35 = .ok (.aload_n 0, 1) := by decide +kernel
theorem dX0_canBeDoneOnceMore_36 : decode cX0_canBeDoneOnceMore 36 = .ok (.getfield 54, 3) := by decide +kernel
theorem dX0_canBeDoneOnceMore_39 : decode cX0_canBeDoneOnceMore 39 = .ok (.sipush 26411, 3) := by decide +kernel
theorem dX0_canBeDoneOnceMore_42 : decode cX0_canBeDoneOnceMore 42 = .ok (.if_icmp .eq 16, 3) := by decide +kernel
theorem dX0_canBeDoneOnceMore_45 : decode cX0_canBeDoneOnceMore 45 = .ok (.aload_n 0, 1) := by decide +kernel
theorem dX0_canBeDoneOnceMore_46 : decode cX0_canBeDoneOnceMore 46 = .ok (.getfield 54, 3) := by decide +kernel
theorem dX0_canBeDoneOnceMore_49 : decode cX0_canBeDoneOnceMore 49 = .ok (.bipush 46, 2) := by decide +kernel
theorem dX0_canBeDoneOnceMore_51 : decode cX0_canBeDoneOnceMore 51 = .ok (.if_icmp .eq 7, 3) := by decide +kernel
theorem dX0_canBeDoneOnceMore_54 : decode cX0_canBeDoneOnceMore 54 = .ok (.iconst 1, 1) := by decide +kernel
theorem dX0_canBeDoneOnceMore_55 : decode cX0_canBeDoneOnceMore 55 = .ok (.goto 4, 3) := by decide +kernel
theorem dX0_canBeDoneOnceMore_58 : decode cX0_canBeDoneOnceMore 58 = .ok (.iconst 0, 1) := by decide +kernel
theorem dX0_canBeDoneOnceMore_59 : decode cX0_canBeDoneOnceMore 59 = .ok (.ireturn, 1) := by decide +kernel
theorem dX0_copyOf_0 : decode cX0_copyOf 0 = .ok (.aload_n 0, 1) := by decide +kernel
theorem dX0_copyOf_1 : decode cX0_copyOf 1 = .ok (.getfield 14, 3) := by decide +kernel
theorem dX0_copyOf_4 : decode cX0_copyOf 4 = .ok (.aload_n 1, 1) := by decide +kernel
theorem dX0_copyOf_5 : decode cX0_copyOf 5 = .ok (.getfield 14, 3) := by decide +kernel
theorem dX0_copyOf_8 : decode cX0_copyOf 8 = .ok (.aload_n 1, 1) := by decide +kernel
theorem dX0_copyOf_9 : decode cX0_copyOf 9 = .ok (.getfield 14, 3) := by decide +kernel
theorem dX0_copyOf_12 : decode cX0_copyOf 12 = .ok (.getfield 107, 3) := by decide +kernel
theorem dX0_copyOf_15 : decode cX0_copyOf 15 = .ok (.invokevirtual 178, 3) := by decide +kernel
theorem dX0_copyOf_18 : decode cX0_copyOf 18 = .ok (.aload_n 0, 1) := by decide +kernel
theorem dX0_copyOf_19 : decode cX0_copyOf 19 = .ok (.aload_n 1, 1) := by decide +kernel
theorem dX0_copyOf_20 : decode cX0_copyOf 20 = .ok (.getfield 39, 3) := by decide +kernel
theorem dX0_copyOf_23 : decode cX0_copyOf 23 = .ok (.putfield 39, 3) := by decide +kernel
theorem dX0_copyOf_26 : decode cX0_copyOf 26 = .ok (.aload_n 0, 1) := by decide +kernel
theorem dX0_copyOf_27 : decode cX0_copyOf 27 = .ok (.aload_n 1, 1) := by decide +kernel
theorem dX0_copyOf_28 : decode cX0_copyOf 28 = .ok (.getfield 42, 3) := by decide +kernel
theorem dX0_copyOf_31 : decode cX0_copyOf 31 = .ok (.putfield 42, 3) := by decide +kernel
theorem dX0_copyOf_34 : decode cX0_copyOf 34 = .ok (.aload_n 0, 1) := by decide +kernel
theorem dX0_copyOf_35 : decode cX0_copyOf 35 = .ok (.aload_n 1, 1) := by decide +kernel
theorem dX0_copyOf_36 : decode cX0_copyOf 36 = .ok (.getfield 45, 3) := by decide +kernel
theorem dX0_copyOf_39 : decode cX0_copyOf 39 = .ok (.putfield 45, 3) := by decide +kernel
theorem dX0_copyOf_42 : decode cX0_copyOf 42 = .ok (.aload_n 0, 1) := by decide +kernel
theorem dX0_copyOf_43 : decode cX0_copyOf 43 = .ok (.aload_n 1, 1) := by decide +kernel
theorem dX0_copyOf_44 : decode cX0_copyOf 44 = .ok (.getfield 48, 3) := by decide +kernel
theorem dX0_copyOf_47 : decode cX0_copyOf 47 = .ok (.putfield 48, 3) := by decide +kernel
theorem dX0_copyOf_50 : decode cX0_copyOf 50 = .ok (.return_, 1) := by decide +kernel
theorem dX0_spell_0 : decode cX0_spell 0 = .ok (.iconst 0, 1) := by decide +kernel
theorem dX0_spell_1 : decode cX0_spell 1 = .ok (.istore_n 3, 1) := by decide +kernel
theorem dX0_spell_2 : decode cX0_spell 2 = .ok (.iload_n 3, 1) := by decide +kernel
theorem dX0_spell_3 : decode cX0_spell 3 = .ok (.aload_n 0, 1) := by decide +kernel
theorem dX0_spell_4 : decode cX0_spell 4 = .ok (.getfield 14, 3) := by decide +kernel
theorem dX0_spell_7 : decode cX0_spell 7 = .ok (.getfield 107, 3) := by decide +kernel
theorem dX0_spell_10 : decode cX0_spell 10 = .ok (.if_icmp .ge 181, 3) := by decide +kernel
theorem dX0_spell_13 : decode cX0_spell 13 = .ok (.aload_n 1, 1) := by decide +kernel
theorem dX0_spell_14 : decode cX0_spell 14 = .ok (.getfield 107, 3) := by decide +kernel
theorem dX0_spell_17 : decode cX0_spell 17 = .ok (.bipush 100, 2) := by decide +kernel
theorem dX0_spell_19 : decode cX0_spell 19 = .ok (.if_icmp .gt 172, 3) := by decide +kernel
theorem dX0_spell_22 : decode cX0_spell 22 = .ok (.aload_n 0, 1) := by decide +kernel
theorem dX0_spell_23 : decode cX0_spell 23 = .ok (.getfield 14, 3) := by decide +kernel
theorem dX0_spell_26 : decode cX0_spell 26 = .ok (.getfield 182, 3) := by decide +kernel
theorem dX0_spell_29 : decode cX0_spell 29 = .ok (.iload_n 3, 1) := by decide +kernel
theorem dX0_spell_30 : decode cX0_spell 30 = .ok (.caload, 1) := by decide +kernel
theorem dX0_spell_31 : decode cX0_spell 31 = .ok (.istore 4, 2) := by decide +kernel
theorem dX0_spell_33 : decode cX0_spell 33 = .ok (.iload_n 2, 1) := by decide +kernel
theorem dX0_spell_34 : decode cX0_spell 34 = .ok (.ifCond .le 41, 3) := by decide +kernel
theorem dX0_spell_37 : decode cX0_spell 37 = .ok (.iload_n 3, 1) := by decide +kernel
theorem dX0_spell_38 : decode cX0_spell 38 = .ok (.aload_n 0, 1) := by decide +kernel
theorem dX0_spell_39 : decode cX0_spell 39 = .ok (.getfield 39, 3) := by decide +kernel
theorem dX0_spell_42 : decode cX0_spell 42 = .ok (.if_icmp .ne 33, 3) := by decide +kernel
theorem dX0_spell_45 : decode cX0_spell 45 = .ok (.iload_n 2, 1) := by decide +kernel
theorem dX0_spell_46 : decode cX0_spell 46 = .ok (.bipush 9, 2) := by decide +kernel
theorem dX0_spell_48 : decode cX0_spell 48 = .ok (.if_icmp .le 15, 3) := by decide +kernel
theorem dX0_spell_51 : decode cX0_spell 51 = .ok (.aload_n 1, 1) := by decide +kernel
theorem dX0_spell_52 : decode cX0_spell 52 = .ok (.bipush 48, 2) := by decide +kernel
theorem dX0_spell_54 : decode cX0_spell 54 = .ok (.iload_n 2, 1) := by decide +kernel
theorem dX0_spell_55 : decode cX0_spell 55 = .ok (.bipush 10, 2) := by decide +kernel
theorem dX0_spell_57 : decode cX0_spell 57 = .ok (.idiv, 1) := by decide +kernel
theorem dX0_spell_58 : decode cX0_spell 58 = .ok (.iadd, 1) := by decide +kernel
theorem dX0_spell_59 : decode cX0_spell 59 = .ok (.invokevirtual 67, 3) := by decide +kernel
theorem dX0_spell_62 : decode cX0_spell 62 = .ok (.pop, 1) := by decide +kernel
theorem dX0_spell_63 : decode cX0_spell 63 = .ok (.aload_n 1, 1) := by decide +kernel
theorem dX0_spell_64 : decode cX0_spell 64 = .ok (.bipush 48, 2) := by decide +kernel
theorem dX0_spell_66 : decode cX0_spell 66 = .ok (.iload_n 2, 1) := by decide +kernel
theorem dX0_spell_67 : decode cX0_spell 67 = .ok (.bipush 10, 2) := by decide +kernel
theorem dX0_spell_69 : decode cX0_spell 69 = .ok (.irem, 1) := by decide +kernel
theorem dX0_spell_70 : decode cX0_spell 70 = .ok (.iadd, 1) := by decide +kernel
theorem dX0_spell_71 : decode cX0_spell 71 = .ok (.invokevirtual 67, 3) := by decide +kernel
theorem dX0_spell_74 : decode cX0_spell 74 = .ok (.pop, 1) := by decide +kernel
theorem dX0_spell_75 : decode cX0_spell 75 = .ok (.iload_n 3, 1) := by decide +kernel
theorem dX0_spell_76 : decode cX0_spell 76 = .ok (.aload_n 0, 1) := by decide +kernel
theorem dX0_spell_77 : decode cX0_spell 77 = .ok (.getfield 39, 3) := by decide +kernel
theorem dX0_spell_80 : decode cX0_spell 80 = .ok (.if_icmp .lt 11, 3) := by decide +kernel
theorem dX0_spell_83 : decode cX0_spell 83 = .ok (.iload_n 3, 1) := by decide +kernel
theorem dX0_spell_84 : decode cX0_spell 84 = .ok (.aload_n 0, 1) := by decide +kernel
theorem dX0_spell_85 : decode cX0_spell 85 = .ok (.getfield 42, 3) := by decide +kernel
theorem dX0_spell_88 : decode cX0_spell 88 = .ok (.if_icmp .lt 19, 3) := by decide +kernel
theorem dX0_spell_91 : decode cX0_spell 91 = .ok (.iload_n 3, 1) := by decide +kernel
theorem dX0_spell_92 : decode cX0_spell 92 = .ok (.aload_n 0, 1) := by decide +kernel
theorem dX0_spell_93 : decode cX0_spell 93 = .ok (.getfield 45, 3) := by decide +kernel
theorem dX0_spell_96 : decode cX0_spell 96 = .ok (.if_icmp .lt 15, 3) := by decide +kernel
theorem dX0_spell_99 : decode cX0_spell 99 = .ok (.iload_n 3, 1) := by decide +kernel
theorem dX0_spell_100 : decode cX0_spell 100 = .ok (.aload_n 0, 1) := by decide +kernel
theorem dX0_spell_101 : decode cX0_spell 101 = .ok (.getfield 48, 3) := by decide +kernel
theorem dX0_spell_104 : decode cX0_spell 104 = .ok (.if_icmp .ge 7, 3) := by decide +kernel
theorem dX0_spell_107 : decode cX0_spell 107 = .ok (.iconst 1, 1) := by decide +kernel
theorem dX0_spell_108 : decode cX0_spell 108 = .ok (.goto 4, 3) := by decide +kernel
theorem dX0_spell_111 : decode cX0_spell 111 = .ok (.iconst 0, 1) := by decide +kernel
theorem dX0_spell_112 : decode cX0_spell 112 = .ok (.istore 5, 2) := by decide +kernel
theorem dX0_spell_114 : decode cX0_spell 114 = .ok (.iload_n 2, 1) := by decide +kernel
theorem dX0_spell_115 : decode cX0_spell 115 = .ok (.ifCond .le 11, 3) := by decide +kernel
theorem dX0_spell_118 : decode cX0_spell 118 = .ok (.iload 5, 2) := by decide +kernel
theorem dX0_spell_120 : decode cX0_spell 120 = .ok (.ifCond .eq 6, 3) := by decide +kernel
theorem dX0_spell_123 : decode cX0_spell 123 = .ok (.goto 62, 3) := by decide +kernel
theorem dX0_spell_126 : decode cX0_spell 126 = .ok (.iload_n 3, 1) := by decide +kernel
theorem dX0_spell_127 : decode cX0_spell 127 = .ok (.iconst 1, 1) := by decide +kernel
theorem dX0_spell_128 : decode cX0_spell 128 = .ok (.if_icmp .ne 35, 3) := by decide +kernel
theorem dX0_spell_131 : decode cX0_spell 131 = .ok (.aload_n 0, 1) := by decide +kernel
theorem dX0_spell_132 : decode cX0_spell 132 = .ok (.getfield 14, 3) := by decide +kernel
theorem dX0_spell_135 : decode cX0_spell 135 = .ok (.getfield 182, 3) := by decide +kernel
theorem dX0_spell_138 : decode cX0_spell 138 = .ok (.iconst 0, 1) := by decide +kernel
theorem dX0_spell_139 : decode cX0_spell 139 = .ok (.caload, 1) := by decide +kernel
theorem dX0_spell_140 : decode cX0_spell 140 = .ok (.bipush 34, 2) := by decide +kernel
theorem dX0_spell_142 : decode cX0_spell 142 = .ok (.if_icmp .ne 21, 3) := by decide +kernel
theorem dX0_spell_145 : decode cX0_spell 145 = .ok (.iload 4, 2) := by decide +kernel
theorem dX0_spell_147 : decode cX0_spell 147 = .ok (.bipush 49, 2) := by decide +kernel
theorem dX0_spell_149 : decode cX0_spell 149 = .ok (.if_icmp .lt 14, 3) := by decide +kernel
theorem dX0_spell_152 : decode cX0_spell 152 = .ok (.iload 4, 2) := by decide +kernel
theorem dX0_spell_154 : decode cX0_spell 154 = .ok (.bipush 56, 2) := by decide +kernel
theorem dX0_spell_156 : decode cX0_spell 156 = .ok (.if_icmp .gt 7, 3) := by decide +kernel
theorem dX0_spell_159 : decode cX0_spell 159 = .ok (.iconst 1, 1) := by decide +kernel
theorem dX0_spell_160 : decode cX0_spell 160 = .ok (.goto 4, 3) := by decide +kernel
theorem dX0_spell_163 : decode cX0_spell 163 = .ok (.iconst 0, 1) := by decide +kernel
theorem dX0_spell_164 : decode cX0_spell 164 = .ok (.istore 6, 2) := by decide +kernel
theorem dX0_spell_166 : decode cX0_spell 166 = .ok (.aload_n 1, 1) := by decide +kernel
theorem dX0_spell_167 : decode cX0_spell 167 = .ok (.iload 6, 2) := by decide +kernel
theorem dX0_spell_169 : decode cX0_spell 169 = .ok (.ifCond .eq 10, 3) := by decide +kernel
theorem dX0_spell_172 : decode cX0_spell 172 = .ok (.iload 4, 2) := by decide +kernel
theorem dX0_spell_174 : decode cX0_spell 174 = .ok (.iconst 1, 1) := by decide +kernel
theorem dX0_spell_175 : decode cX0_spell 175 = .ok (.iadd, 1) := by decide +kernel
theorem dX0_spell_176 : decode cX0_spell 176 = .ok (.goto 5, 3) := by decide +kernel
theorem dX0_spell_179 : decode cX0_spell 179 = .ok (.iload 4, 2) := by decide +kernel
theorem dX0_spell_181 : decode cX0_spell 181 = .ok (.invokevirtual 67, 3) := by decide +kernel
theorem dX0_spell_184 : decode cX0_spell 184 = .ok (.pop, 1) := by decide +kernel
theorem dX0_spell_185 : decode cX0_spell 185 = .ok (.iinc 3 1, 3) := by decide +kernel
theorem dX0_spell_188 : decode cX0_spell 188 = .ok (.goto (-186), 3) := by decide +kernel
theorem dX0_spell_191 : decode cX0_spell 191 = .ok (.return_, 1) := by decide +kernel
theorem dX1_sortLines_0 : decode cX1_sortLines 0 = .ok (.bipush 40, 2) := by decide +kernel
theorem dX1_sortLines_2 : decode cX1_sortLines 2 = .ok (.newarray .int, 2) := by decide +kernel
theorem dX1_sortLines_4 : decode cX1_sortLines 4 = .ok (.astore_n 3, 1) := by decide +kernel
theorem dX1_sortLines_5 : decode cX1_sortLines 5 = .ok (.iconst 0, 1) := by decide +kernel
theorem dX1_sortLines_6 : decode cX1_sortLines 6 = .ok (.istore 4, 2) := by decide +kernel
theorem dX1_sortLines_8 : decode cX1_sortLines 8 = .ok (.iload_n 1, 1) := by decide +kernel
theorem dX1_sortLines_9 : decode cX1_sortLines 9 = .ok (.istore 5, 2) := by decide +kernel
theorem dX1_sortLines_11 : decode cX1_sortLines 11 = .ok (.iload 5, 2) := by decide +kernel
theorem dX1_sortLines_13 : decode cX1_sortLines 13 = .ok (.iload_n 2, 1) := by decide +kernel
theorem dX1_sortLines_14 : decode cX1_sortLines 14 = .ok (.if_icmp .gt 69, 3) := by decide +kernel
theorem dX1_sortLines_17 : decode cX1_sortLines 17 = .ok (.iload 5, 2) := by decide +kernel
theorem dX1_sortLines_19 : decode cX1_sortLines 19 = .ok (.bipush 40, 2) := by decide +kernel
theorem dX1_sortLines_21 : decode cX1_sortLines 21 = .ok (.if_icmp .ge 62, 3) := by decide +kernel
theorem dX1_sortLines_24 : decode cX1_sortLines 24 = .ok (.iload 5, 2) := by decide +kernel
theorem dX1_sortLines_26 : decode cX1_sortLines 26 = .ok (.istore 6, 2) := by decide +kernel
theorem dX1_sortLines_28 : decode cX1_sortLines 28 = .ok (.iload 6, 2) := by decide +kernel
theorem dX1_sortLines_30 : decode cX1_sortLines 30 = .ok (.iload_n 1, 1) := by decide +kernel
theorem dX1_sortLines_31 : decode cX1_sortLines 31 = .ok (.if_icmp .le 40, 3) := by decide +kernel
theorem dX1_sortLines_34 : decode cX1_sortLines 34 = .ok (.aload_n 0, 1) := by decide +kernel
theorem dX1_sortLines_35 : decode cX1_sortLines 35 = .ok (.getfield 42, 3) := by decide +kernel
theorem dX1_sortLines_38 : decode cX1_sortLines 38 = .ok (.aload_n 3, 1) := by decide +kernel
theorem dX1_sortLines_39 : decode cX1_sortLines 39 = .ok (.iload 6, 2) := by decide +kernel
theorem dX1_sortLines_41 : decode cX1_sortLines 41 = .ok (.iconst 1, 1) := by decide +kernel
theorem dX1_sortLines_42 : decode cX1_sortLines 42 = .ok (.isub, 1) := by decide +kernel
theorem dX1_sortLines_43 : decode cX1_sortLines 43 = .ok (.iaload, 1) := by decide +kernel
theorem dX1_sortLines_44 : decode cX1_sortLines 44 = .ok (.iload 5, 2) := by decide +kernel
theorem dX1_sortLines_46 : decode cX1_sortLines 46 = .ok (.invokevirtual 270, 3) := by decide +kernel
theorem dX1_sortLines_49 : decode cX1_sortLines 49 = .ok (.ifCond .le 22, 3) := by decide +kernel
theorem dX1_sortLines_52 : decode cX1_sortLines 52 = .ok (.aload_n 3, 1) := by decide +kernel
theorem dX1_sortLines_53 : decode cX1_sortLines 53 = .ok (.iload 6, 2) := by decide +kernel
theorem dX1_sortLines_55 : decode cX1_sortLines 55 = .ok (.aload_n 3, 1) := by decide +kernel
theorem dX1_sortLines_56 : decode cX1_sortLines 56 = .ok (.iload 6, 2) := by decide +kernel
theorem dX1_sortLines_58 : decode cX1_sortLines 58 = .ok (.iconst 1, 1) := by decide +kernel
theorem dX1_sortLines_59 : decode cX1_sortLines 59 = .ok (.isub, 1) := by decide +kernel
theorem dX1_sortLines_60 : decode cX1_sortLines 60 = .ok (.iaload, 1) := by decide +kernel
theorem dX1_sortLines_61 : decode cX1_sortLines 61 = .ok (.iastore, 1) := by decide +kernel
theorem dX1_sortLines_62 : decode cX1_sortLines 62 = .ok (.iinc 6 (-1), 3) := by decide +kernel
theorem dX1_sortLines_65 : decode cX1_sortLines 65 = .ok (.iconst 1, 1) := by decide +kernel
theorem dX1_sortLines_66 : decode cX1_sortLines 66 = .ok (.istore 4, 2) := by decide +kernel
theorem dX1_sortLines_68 : decode cX1_sortLines 68 = .ok (.goto (-40), 3) := by decide +kernel
theorem dX1_sortLines_71 : decode cX1_sortLines 71 = .ok (.aload_n 3, 1) := by decide +kernel
theorem dX1_sortLines_72 : decode cX1_sortLines 72 = .ok (.iload 6, 2) := by decide +kernel
theorem dX1_sortLines_74 : decode cX1_sortLines 74 = .ok (.iload 5, 2) := by decide +kernel
theorem dX1_sortLines_76 : decode cX1_sortLines 76 = .ok (.iastore, 1) := by decide +kernel
theorem dX1_sortLines_77 : decode cX1_sortLines 77 = .ok (.iinc 5 1, 3) := by decide +kernel
theorem dX1_sortLines_80 : decode cX1_sortLines 80 = .ok (.goto (-69), 3) := by decide +kernel
theorem dX1_sortLines_83 : decode cX1_sortLines 83 = .ok (.iload 4, 2) := by decide +kernel
theorem dX1_sortLines_85 : decode cX1_sortLines 85 = .ok (.ifCond .eq 66, 3) := by decide +kernel
theorem dX1_sortLines_88 : decode cX1_sortLines 88 = .ok (.aload_n 0, 1) := by decide +kernel
theorem dX1_sortLines_89 : decode cX1_sortLines 89 = .ok (.getfield 14, 3) := by decide +kernel
theorem dX1_sortLines_92 : decode cX1_sortLines 92 = .ok (.aload_n 0, 1) := by decide +kernel
theorem dX1_sortLines_93 : decode cX1_sortLines 93 = .ok (.getfield 42, 3) := by decide +kernel
theorem dX1_sortLines_96 : decode cX1_sortLines 96 = .ok (.invokevirtual 262, 3) := by decide +kernel
theorem dX1_sortLines_99 : decode cX1_sortLines 99 = .ok (.aload_n 0, 1) := by decide +kernel
theorem dX1_sortLines_100 : decode cX1_sortLines 100 = .ok (.getfield 42, 3) := by decide +kernel
theorem dX1_sortLines_103 : decode cX1_sortLines 103 = .ok (.iload_n 1, 1) := by decide +kernel
theorem dX1_sortLines_104 : decode cX1_sortLines 104 = .ok (.iload_n 2, 1) := by decide +kernel
theorem dX1_sortLines_105 : decode cX1_sortLines 105 = .ok (.iload_n 1, 1) := by decide +kernel
theorem dX1_sortLines_106 : decode cX1_sortLines 106 = .ok (.isub, 1) := by decide +kernel
theorem dX1_sortLines_107 : decode cX1_sortLines 107 = .ok (.iconst 1, 1) := by decide +kernel
theorem dX1_sortLines_108 : decode cX1_sortLines 108 = .ok (.iadd, 1) := by decide +kernel
theorem dX1_sortLines_109 : decode cX1_sortLines 109 = .ok (.invokevirtual 273, 3) := by decide +kernel
theorem dX1_sortLines_112 : decode cX1_sortLines 112 = .ok (.iload_n 1, 1) := by decide +kernel
theorem dX1_sortLines_113 : decode cX1_sortLines 113 = .ok (.istore 5, 2) := by decide +kernel
theorem dX1_sortLines_115 : decode cX1_sortLines 115 = .ok (.iload 5, 2) := by decide +kernel
theorem dX1_sortLines_117 : decode cX1_sortLines 117 = .ok (.iload_n 2, 1) := by decide +kernel
theorem dX1_sortLines_118 : decode cX1_sortLines 118 = .ok (.if_icmp .gt 33, 3) := by decide +kernel
theorem dX1_sortLines_121 : decode cX1_sortLines 121 = .ok (.iload 5, 2) := by decide +kernel
theorem dX1_sortLines_123 : decode cX1_sortLines 123 = .ok (.bipush 40, 2) := by decide +kernel
theorem dX1_sortLines_125 : decode cX1_sortLines 125 = .ok (.if_icmp .ge 26, 3) := by decide +kernel
theorem dX1_sortLines_128 : decode cX1_sortLines 128 = .ok (.aload_n 0, 1) := by decide +kernel
theorem dX1_sortLines_129 : decode cX1_sortLines 129 = .ok (.getfield 42, 3) := by decide +kernel
theorem dX1_sortLines_132 : decode cX1_sortLines 132 = .ok (.iload 5, 2) := by decide +kernel
theorem dX1_sortLines_134 : decode cX1_sortLines 134 = .ok (.aload_n 0, 1) := by decide +kernel
theorem dX1_sortLines_135 : decode cX1_sortLines 135 = .ok (.getfield 14, 3) := by decide +kernel
theorem dX1_sortLines_138 : decode cX1_sortLines 138 = .ok (.aload_n 3, 1) := by decide +kernel
theorem dX1_sortLines_139 : decode cX1_sortLines 139 = .ok (.iload 5, 2) := by decide +kernel
theorem dX1_sortLines_141 : decode cX1_sortLines 141 = .ok (.iaload, 1) := by decide +kernel
theorem dX1_sortLines_142 : decode cX1_sortLines 142 = .ok (.invokevirtual 266, 3) := by decide +kernel
theorem dX1_sortLines_145 : decode cX1_sortLines 145 = .ok (.iinc 5 1, 3) := by decide +kernel
theorem dX1_sortLines_148 : decode cX1_sortLines 148 = .ok (.goto (-33), 3) := by decide +kernel
theorem dX1_sortLines_151 : decode cX1_sortLines 151 = .ok (.aload_n 0, 1) := by decide +kernel
theorem dX1_sortLines_152 : decode cX1_sortLines 152 = .ok (.getfield 45, 3) := by decide +kernel
theorem dX1_sortLines_155 : decode cX1_sortLines 155 = .ok (.aload_n 0, 1) := by decide +kernel
theorem dX1_sortLines_156 : decode cX1_sortLines 156 = .ok (.getfield 42, 3) := by decide +kernel
theorem dX1_sortLines_159 : decode cX1_sortLines 159 = .ok (.iload_n 2, 1) := by decide +kernel
theorem dX1_sortLines_160 : decode cX1_sortLines 160 = .ok (.invokevirtual 173, 3) := by decide +kernel
theorem dX1_sortLines_163 : decode cX1_sortLines 163 = .ok (.return_, 1) := by decide +kernel
theorem dX5_finish_0 : decode cX5_finish 0 = .ok (.aload_n 0, 1) := by decide +kernel
theorem dX5_finish_1 : decode cX5_finish 1 = .ok (.getfield 71, 3) := by decide +kernel
theorem dX5_finish_4 : decode cX5_finish 4 = .ok (.iconst 1, 1) := by decide +kernel
theorem dX5_finish_5 : decode cX5_finish 5 = .ok (.invokevirtual 165, 3) := by decide +kernel
theorem dX5_finish_8 : decode cX5_finish 8 = .ok (.ifCond .ne 17, 3) := by decide +kernel
theorem dX5_finish_11 : decode cX5_finish 11 = .ok (.aload_n 0, 1) := by decide +kernel
theorem dX5_finish_12 : decode cX5_finish 12 = .ok (.getfield 23, 3) := by decide +kernel
theorem dX5_finish_15 : decode cX5_finish 15 = .ok (.aload_n 0, 1) := by decide +kernel
theorem dX5_finish_16 : decode cX5_finish 16 = .ok (.getfield 85, 3) := by decide +kernel
theorem dX5_finish_19 : decode cX5_finish 19 = .ok (.invokevirtual 348, 3) := by decide +kernel
theorem dX5_finish_22 : decode cX5_finish 22 = .ok (.ifCond .ne 7, 3) := by decide +kernel
theorem dX5_finish_25 : decode cX5_finish 25 = .ok (.iconst 1, 1) := by decide +kernel
theorem dX5_finish_26 : decode cX5_finish 26 = .ok (.goto 4, 3) := by decide +kernel
theorem dX5_finish_29 : decode cX5_finish 29 = .ok (.iconst 0, 1) := by decide +kernel
theorem dX5_finish_30 : decode cX5_finish 30 = .ok (.istore_n 1, 1) := by decide +kernel
theorem dX5_finish_31 : decode cX5_finish 31 = .ok (.aload_n 0, 1) := by decide +kernel
theorem dX5_finish_32 : decode cX5_finish 32 = .ok (.getfield 78, 3) := by decide +kernel
theorem dX5_finish_35 : decode cX5_finish 35 = .ok (.invokevirtual 351, 3) := by decide +kernel
theorem dX5_finish_38 : decode cX5_finish 38 = .ok (.ifCond .eq 18, 3) := by decide +kernel
theorem dX5_finish_41 : decode cX5_finish 41 = .ok (.iload_n 1, 1) := by decide +kernel
theorem dX5_finish_42 : decode cX5_finish 42 = .ok (.ifCond .eq 14, 3) := by decide +kernel
theorem dX5_finish_45 : decode cX5_finish 45 = .ok (.aload_n 0, 1) := by decide +kernel
theorem dX5_finish_46 : decode cX5_finish 46 = .ok (.getfield 82, 3) := by decide +kernel
theorem dX5_finish_49 : decode cX5_finish 49 = .ok (.aload_n 0, 1) := by decide +kernel
theorem dX5_finish_50 : decode cX5_finish 50 = .ok (.getfield 78, 3) := by decide +kernel
theorem dX5_finish_53 : decode cX5_finish 53 = .ok (.invokevirtual 354, 3) := by decide +kernel
theorem dX5_finish_56 : decode cX5_finish 56 = .ok (.aload_n 0, 1) := by decide +kernel
theorem dX5_finish_57 : decode cX5_finish 57 = .ok (.getfield 78, 3) := by decide +kernel
theorem dX5_finish_60 : decode cX5_finish 60 = .ok (.invokevirtual 123, 3) := by decide +kernel
theorem dX5_finish_63 : decode cX5_finish 63 = .ok (.return_, 1) := by decide +kernel
theorem dX6_goToText_0 : decode cX6_goToText 0 = .ok (.aload_n 0, 1) := by decide +kernel
theorem dX6_goToText_1 : decode cX6_goToText 1 = .ok (.iconst 0, 1) := by decide +kernel
theorem dX6_goToText_2 : decode cX6_goToText 2 = .ok (.iload_n 2, 1) := by decide +kernel
theorem dX6_goToText_3 : decode cX6_goToText 3 = .ok (.aload_n 1, 1) := by decide +kernel
theorem dX6_goToText_4 : decode cX6_goToText 4 = .ok (.getfield 68, 3) := by decide +kernel
theorem dX6_goToText_7 : decode cX6_goToText 7 = .ok (.iconst 1, 1) := by decide +kernel
theorem dX6_goToText_8 : decode cX6_goToText 8 = .ok (.isub, 1) := by decide +kernel
theorem dX6_goToText_9 : decode cX6_goToText 9 = .ok (.invokestatic 73, 3) := by decide +kernel
theorem dX6_goToText_12 : decode cX6_goToText 12 = .ok (.invokestatic 79, 3) := by decide +kernel
theorem dX6_goToText_15 : decode cX6_goToText 15 = .ok (.putfield 9, 3) := by decide +kernel
theorem dX6_goToText_18 : decode cX6_goToText 18 = .ok (.aload_n 0, 1) := by decide +kernel
theorem dX6_goToText_19 : decode cX6_goToText 19 = .ok (.aload_n 1, 1) := by decide +kernel
theorem dX6_goToText_20 : decode cX6_goToText 20 = .ok (.aload_n 0, 1) := by decide +kernel
theorem dX6_goToText_21 : decode cX6_goToText 21 = .ok (.getfield 9, 3) := by decide +kernel
theorem dX6_goToText_24 : decode cX6_goToText 24 = .ok (.invokevirtual 86, 3) := by decide +kernel
theorem dX6_goToText_27 : decode cX6_goToText 27 = .ok (.putfield 15, 3) := by decide +kernel
theorem dX6_goToText_30 : decode cX6_goToText 30 = .ok (.aload_n 0, 1) := by decide +kernel
theorem dX6_goToText_31 : decode cX6_goToText 31 = .ok (.aload_n 0, 1) := by decide +kernel
theorem dX6_goToText_32 : decode cX6_goToText 32 = .ok (.getfield 15, 3) := by decide +kernel
theorem dX6_goToText_35 : decode cX6_goToText 35 = .ok (.putfield 18, 3) := by decide +kernel
theorem dX6_goToText_38 : decode cX6_goToText 38 = .ok (.return_, 1) := by decide +kernel
theorem dX6_closedOver_0 : decode cX6_closedOver 0 = .ok (.iconst (-1), 1) := by decide +kernel
theorem dX6_closedOver_1 : decode cX6_closedOver 1 = .ok (.istore_n 2, 1) := by decide +kernel
theorem dX6_closedOver_2 : decode cX6_closedOver 2 = .ok (.iconst 0, 1) := by decide +kernel
theorem dX6_closedOver_3 : decode cX6_closedOver 3 = .ok (.istore_n 3, 1) := by decide +kernel
theorem dX6_closedOver_4 : decode cX6_closedOver 4 = .ok (.iload_n 3, 1) := by decide +kernel
theorem dX6_closedOver_5 : decode cX6_closedOver 5 = .ok (.aload_n 0, 1) := by decide +kernel
theorem dX6_closedOver_6 : decode cX6_closedOver 6 = .ok (.getfield 59, 3) := by decide +kernel
theorem dX6_closedOver_9 : decode cX6_closedOver 9 = .ok (.if_icmp .ge 74, 3) := by decide +kernel
theorem dX6_closedOver_12 : decode cX6_closedOver 12 = .ok (.aload_n 0, 1) := by decide +kernel
theorem dX6_closedOver_13 : decode cX6_closedOver 13 = .ok (.getfield 55, 3) := by decide +kernel
theorem dX6_closedOver_16 : decode cX6_closedOver 16 = .ok (.iload_n 3, 1) := by decide +kernel
theorem dX6_closedOver_17 : decode cX6_closedOver 17 = .ok (.baload, 1) := by decide +kernel
theorem dX6_closedOver_18 : decode cX6_closedOver 18 = .ok (.ifCond .eq 59, 3) := by decide +kernel
theorem dX6_closedOver_21 : decode cX6_closedOver 21 = .ok (.aload_n 0, 1) := by decide +kernel
theorem dX6_closedOver_22 : decode cX6_closedOver 22 = .ok (.getfield 49, 3) := by decide +kernel
theorem dX6_closedOver_25 : decode cX6_closedOver 25 = .ok (.iload_n 3, 1) := by decide +kernel
theorem dX6_closedOver_26 : decode cX6_closedOver 26 = .ok (.iaload, 1) := by decide +kernel
theorem dX6_closedOver_27 : decode cX6_closedOver 27 = .ok (.iload_n 1, 1) := by decide +kernel
theorem dX6_closedOver_28 : decode cX6_closedOver 28 = .ok (.if_icmp .gt 49, 3) := by decide +kernel
theorem dX6_closedOver_31 : decode cX6_closedOver 31 = .ok (.iload_n 1, 1) := by decide +kernel
theorem dX6_closedOver_32 : decode cX6_closedOver 32 = .ok (.aload_n 0, 1) := by decide +kernel
theorem dX6_closedOver_33 : decode cX6_closedOver 33 = .ok (.getfield 52, 3) := by decide +kernel
theorem dX6_closedOver_36 : decode cX6_closedOver 36 = .ok (.iload_n 3, 1) := by decide +kernel
theorem dX6_closedOver_37 : decode cX6_closedOver 37 = .ok (.iaload, 1) := by decide +kernel
theorem dX6_closedOver_38 : decode cX6_closedOver 38 = .ok (.if_icmp .gt 39, 3) := by decide +kernel
theorem dX6_closedOver_41 : decode cX6_closedOver 41 = .ok (.iload_n 2, 1) := by decide +kernel
theorem dX6_closedOver_42 : decode cX6_closedOver 42 = .ok (.iconst (-1), 1) := by decide +kernel
theorem dX6_closedOver_43 : decode cX6_closedOver 43 = .ok (.if_icmp .eq 32, 3) := by decide +kernel
theorem dX6_closedOver_46 : decode cX6_closedOver 46 = .ok (.aload_n 0, 1) := by decide +kernel
theorem dX6_closedOver_47 : decode cX6_closedOver 47 = .ok (.getfield 52, 3) := by decide +kernel
theorem dX6_closedOver_50 : decode cX6_closedOver 50 = .ok (.iload_n 3, 1) := by decide +kernel
theorem dX6_closedOver_51 : decode cX6_closedOver 51 = .ok (.iaload, 1) := by decide +kernel
theorem dX6_closedOver_52 : decode cX6_closedOver 52 = .ok (.aload_n 0, 1) := by decide +kernel
theorem dX6_closedOver_53 : decode cX6_closedOver 53 = .ok (.getfield 49, 3) := by decide +kernel
theorem dX6_closedOver_56 : decode cX6_closedOver 56 = .ok (.iload_n 3, 1) := by decide +kernel
theorem dX6_closedOver_57 : decode cX6_closedOver 57 = .ok (.iaload, 1) := by decide +kernel
theorem dX6_closedOver_58 : decode cX6_closedOver 58 = .ok (.isub, 1) := by decide +kernel
theorem dX6_closedOver_59 : decode cX6_closedOver 59 = .ok (.aload_n 0, 1) := by decide +kernel
theorem dX6_closedOver_60 : decode cX6_closedOver 60 = .ok (.getfield 52, 3) := by decide +kernel
theorem dX6_closedOver_63 : decode cX6_closedOver 63 = .ok (.iload_n 2, 1) := by decide +kernel
theorem dX6_closedOver_64 : decode cX6_closedOver 64 = .ok (.iaload, 1) := by decide +kernel
theorem dX6_closedOver_65 : decode cX6_closedOver 65 = .ok (.aload_n 0, 1) := by decide +kernel
theorem dX6_closedOver_66 : decode cX6_closedOver 66 = .ok (.getfield 49, 3) := by decide +kernel
theorem dX6_closedOver_69 : decode cX6_closedOver 69 = .ok (.iload_n 2, 1) := by decide +kernel
theorem dX6_closedOver_70 : decode cX6_closedOver 70 = .ok (.iaload, 1) := by decide +kernel
theorem dX6_closedOver_71 : decode cX6_closedOver 71 = .ok (.isub, 1) := by decide +kernel
theorem dX6_closedOver_72 : decode cX6_closedOver 72 = .ok (.if_icmp .le 5, 3) := by decide +kernel
theorem dX6_closedOver_75 : decode cX6_closedOver 75 = .ok (.iload_n 3, 1) := by decide +kernel
theorem dX6_closedOver_76 : decode cX6_closedOver 76 = .ok (.istore_n 2, 1) := by decide +kernel
theorem dX6_closedOver_77 : decode cX6_closedOver 77 = .ok (.iinc 3 1, 3) := by decide +kernel
theorem dX6_closedOver_80 : decode cX6_closedOver 80 = .ok (.goto (-76), 3) := by decide +kernel
theorem dX6_closedOver_83 : decode cX6_closedOver 83 = .ok (.iload_n 2, 1) := by decide +kernel
theorem dX6_closedOver_84 : decode cX6_closedOver 84 = .ok (.ireturn, 1) := by decide +kernel
theorem dX6_topOf_0 : decode cX6_topOf 0 = .ok (.aload_n 0, 1) := by decide +kernel
theorem dX6_topOf_1 : decode cX6_topOf 1 = .ok (.iload_n 1, 1) := by decide +kernel
theorem dX6_topOf_2 : decode cX6_topOf 2 = .ok (.invokevirtual 114, 3) := by decide +kernel
theorem dX6_topOf_5 : decode cX6_topOf 5 = .ok (.istore_n 2, 1) := by decide +kernel
theorem dX6_topOf_6 : decode cX6_topOf 6 = .ok (.iload_n 2, 1) := by decide +kernel
theorem dX6_topOf_7 : decode cX6_topOf 7 = .ok (.iconst (-1), 1) := by decide +kernel
theorem dX6_topOf_8 : decode cX6_topOf 8 = .ok (.if_icmp .ne 7, 3) := by decide +kernel
theorem dX6_topOf_11 : decode cX6_topOf 11 = .ok (.iload_n 1, 1) := by decide +kernel
theorem dX6_topOf_12 : decode cX6_topOf 12 = .ok (.goto 9, 3) := by decide +kernel
theorem dX6_topOf_15 : decode cX6_topOf 15 = .ok (.aload_n 0, 1) := by decide +kernel
theorem dX6_topOf_16 : decode cX6_topOf 16 = .ok (.getfield 49, 3) := by decide +kernel
theorem dX6_topOf_19 : decode cX6_topOf 19 = .ok (.iload_n 2, 1) := by decide +kernel
theorem dX6_topOf_20 : decode cX6_topOf 20 = .ok (.iaload, 1) := by decide +kernel
theorem dX6_topOf_21 : decode cX6_topOf 21 = .ok (.ireturn, 1) := by decide +kernel
theorem dX6_endOf_0 : decode cX6_endOf 0 = .ok (.aload_n 0, 1) := by decide +kernel
theorem dX6_endOf_1 : decode cX6_endOf 1 = .ok (.iload_n 1, 1) := by decide +kernel
theorem dX6_endOf_2 : decode cX6_endOf 2 = .ok (.invokevirtual 114, 3) := by decide +kernel
theorem dX6_endOf_5 : decode cX6_endOf 5 = .ok (.istore_n 2, 1) := by decide +kernel
theorem dX6_endOf_6 : decode cX6_endOf 6 = .ok (.iload_n 2, 1) := by decide +kernel
theorem dX6_endOf_7 : decode cX6_endOf 7 = .ok (.iconst (-1), 1) := by decide +kernel
theorem dX6_endOf_8 : decode cX6_endOf 8 = .ok (.if_icmp .ne 7, 3) := by decide +kernel
theorem dX6_endOf_11 : decode cX6_endOf 11 = .ok (.iload_n 1, 1) := by decide +kernel
theorem dX6_endOf_12 : decode cX6_endOf 12 = .ok (.goto 9, 3) := by decide +kernel
theorem dX6_endOf_15 : decode cX6_endOf 15 = .ok (.aload_n 0, 1) := by decide +kernel
theorem dX6_endOf_16 : decode cX6_endOf 16 = .ok (.getfield 52, 3) := by decide +kernel
theorem dX6_endOf_19 : decode cX6_endOf 19 = .ok (.iload_n 2, 1) := by decide +kernel
theorem dX6_endOf_20 : decode cX6_endOf 20 = .ok (.iaload, 1) := by decide +kernel
theorem dX6_endOf_21 : decode cX6_endOf 21 = .ok (.ireturn, 1) := by decide +kernel
theorem dX6_linesPut_0 : decode cX6_linesPut 0 = .ok (.iconst 0, 1) := by decide +kernel
theorem dX6_linesPut_1 : decode cX6_linesPut 1 = .ok (.istore_n 3, 1) := by decide +kernel
theorem dX6_linesPut_2 : decode cX6_linesPut 2 = .ok (.iload_n 3, 1) := by decide +kernel
theorem dX6_linesPut_3 : decode cX6_linesPut 3 = .ok (.aload_n 0, 1) := by decide +kernel
theorem dX6_linesPut_4 : decode cX6_linesPut 4 = .ok (.getfield 24, 3) := by decide +kernel
theorem dX6_linesPut_7 : decode cX6_linesPut 7 = .ok (.arraylength, 1) := by decide +kernel
theorem dX6_linesPut_8 : decode cX6_linesPut 8 = .ok (.if_icmp .ge 39, 3) := by decide +kernel
theorem dX6_linesPut_11 : decode cX6_linesPut 11 = .ok (.aload_n 0, 1) := by decide +kernel
theorem dX6_linesPut_12 : decode cX6_linesPut 12 = .ok (.getfield 24, 3) := by decide +kernel
theorem dX6_linesPut_15 : decode cX6_linesPut 15 = .ok (.iload_n 3, 1) := by decide +kernel
theorem dX6_linesPut_16 : decode cX6_linesPut 16 = .ok (.dup2, 1) := by decide +kernel
theorem dX6_linesPut_17 : decode cX6_linesPut 17 = .ok (.iaload, 1) := by decide +kernel
theorem dX6_linesPut_18 : decode cX6_linesPut 18 = .ok (.aload_n 0, 1) := by decide +kernel
theorem dX6_linesPut_19 : decode cX6_linesPut 19 = .ok (.getfield 24, 3) := by decide +kernel
theorem dX6_linesPut_22 : decode cX6_linesPut 22 = .ok (.iload_n 3, 1) := by decide +kernel
theorem dX6_linesPut_23 : decode cX6_linesPut 23 = .ok (.iaload, 1) := by decide +kernel
theorem dX6_linesPut_24 : decode cX6_linesPut 24 = .ok (.iload_n 1, 1) := by decide +kernel
theorem dX6_linesPut_25 : decode cX6_linesPut 25 = .ok (.bipush 100, 2) := by decide +kernel
theorem dX6_linesPut_27 : decode cX6_linesPut 27 = .ok (.imul, 1) := by decide +kernel
theorem dX6_linesPut_28 : decode cX6_linesPut 28 = .ok (.if_icmp .lt 10, 3) := by decide +kernel
theorem dX6_linesPut_31 : decode cX6_linesPut 31 = .ok (.iload_n 2, 1) := by decide +kernel
theorem dX6_linesPut_32 : decode cX6_linesPut 32 = .ok (.bipush 100, 2) := by decide +kernel
theorem dX6_linesPut_34 : decode cX6_linesPut 34 = .ok (.imul, 1) := by decide +kernel
theorem dX6_linesPut_35 : decode cX6_linesPut 35 = .ok (.goto 4, 3) := by decide +kernel
theorem dX6_linesPut_38 : decode cX6_linesPut 38 = .ok (.iconst 0, 1) := by decide +kernel
theorem dX6_linesPut_39 : decode cX6_linesPut 39 = .ok (.iadd, 1) := by decide +kernel
theorem dX6_linesPut_40 : decode cX6_linesPut 40 = .ok (.iastore, 1) := by decide +kernel
theorem dX6_linesPut_41 : decode cX6_linesPut 41 = .ok (.iinc 3 1, 3) := by decide +kernel
theorem dX6_linesPut_44 : decode cX6_linesPut 44 = .ok (.goto (-42), 3) := by decide +kernel
theorem dX6_linesPut_47 : decode cX6_linesPut 47 = .ok (.iconst 0, 1) := by decide +kernel
theorem dX6_linesPut_48 : decode cX6_linesPut 48 = .ok (.istore_n 3, 1) := by decide +kernel
theorem dX6_linesPut_49 : decode cX6_linesPut 49 = .ok (.iload_n 3, 1) := by decide +kernel
theorem dX6_linesPut_50 : decode cX6_linesPut 50 = .ok (.aload_n 0, 1) := by decide +kernel
theorem dX6_linesPut_51 : decode cX6_linesPut 51 = .ok (.getfield 31, 3) := by decide +kernel
theorem dX6_linesPut_54 : decode cX6_linesPut 54 = .ok (.if_icmp .ge 39, 3) := by decide +kernel
theorem dX6_linesPut_57 : decode cX6_linesPut 57 = .ok (.aload_n 0, 1) := by decide +kernel
theorem dX6_linesPut_58 : decode cX6_linesPut 58 = .ok (.getfield 28, 3) := by decide +kernel
theorem dX6_linesPut_61 : decode cX6_linesPut 61 = .ok (.iload_n 3, 1) := by decide +kernel
theorem dX6_linesPut_62 : decode cX6_linesPut 62 = .ok (.dup2, 1) := by decide +kernel
theorem dX6_linesPut_63 : decode cX6_linesPut 63 = .ok (.iaload, 1) := by decide +kernel
theorem dX6_linesPut_64 : decode cX6_linesPut 64 = .ok (.aload_n 0, 1) := by decide +kernel
theorem dX6_linesPut_65 : decode cX6_linesPut 65 = .ok (.getfield 28, 3) := by decide +kernel
theorem dX6_linesPut_68 : decode cX6_linesPut 68 = .ok (.iload_n 3, 1) := by decide +kernel
theorem dX6_linesPut_69 : decode cX6_linesPut 69 = .ok (.iaload, 1) := by decide +kernel
theorem dX6_linesPut_70 : decode cX6_linesPut 70 = .ok (.iload_n 1, 1) := by decide +kernel
theorem dX6_linesPut_71 : decode cX6_linesPut 71 = .ok (.bipush 100, 2) := by decide +kernel
theorem dX6_linesPut_73 : decode cX6_linesPut 73 = .ok (.imul, 1) := by decide +kernel
theorem dX6_linesPut_74 : decode cX6_linesPut 74 = .ok (.if_icmp .lt 10, 3) := by decide +kernel
theorem dX6_linesPut_77 : decode cX6_linesPut 77 = .ok (.iload_n 2, 1) := by decide +kernel
theorem dX6_linesPut_78 : decode cX6_linesPut 78 = .ok (.bipush 100, 2) := by decide +kernel
theorem dX6_linesPut_80 : decode cX6_linesPut 80 = .ok (.imul, 1) := by decide +kernel
theorem dX6_linesPut_81 : decode cX6_linesPut 81 = .ok (.goto 4, 3) := by decide +kernel
theorem dX6_linesPut_84 : decode cX6_linesPut 84 = .ok (.iconst 0, 1) := by decide +kernel
theorem dX6_linesPut_85 : decode cX6_linesPut 85 = .ok (.iadd, 1) := by decide +kernel
theorem dX6_linesPut_86 : decode cX6_linesPut 86 = .ok (.iastore, 1) := by decide +kernel
theorem dX6_linesPut_87 : decode cX6_linesPut 87 = .ok (.iinc 3 1, 3) := by decide +kernel
theorem dX6_linesPut_90 : decode cX6_linesPut 90 = .ok (.goto (-41), 3) := by decide +kernel
theorem dX6_linesPut_93 : decode cX6_linesPut 93 = .ok (.iconst 0, 1) := by decide +kernel
theorem dX6_linesPut_94 : decode cX6_linesPut 94 = .ok (.istore_n 3, 1) := by decide +kernel
theorem dX6_linesPut_95 : decode cX6_linesPut 95 = .ok (.iload_n 3, 1) := by decide +kernel
theorem dX6_linesPut_96 : decode cX6_linesPut 96 = .ok (.aload_n 0, 1) := by decide +kernel
theorem dX6_linesPut_97 : decode cX6_linesPut 97 = .ok (.getfield 40, 3) := by decide +kernel
theorem dX6_linesPut_100 : decode cX6_linesPut 100 = .ok (.if_icmp .ge 39, 3) := by decide +kernel
theorem dX6_linesPut_103 : decode cX6_linesPut 103 = .ok (.aload_n 0, 1) := by decide +kernel
theorem dX6_linesPut_104 : decode cX6_linesPut 104 = .ok (.getfield 37, 3) := by decide +kernel
theorem dX6_linesPut_107 : decode cX6_linesPut 107 = .ok (.iload_n 3, 1) := by decide +kernel
theorem dX6_linesPut_108 : decode cX6_linesPut 108 = .ok (.dup2, 1) := by decide +kernel
theorem dX6_linesPut_109 : decode cX6_linesPut 109 = .ok (.iaload, 1) := by decide +kernel
theorem dX6_linesPut_110 : decode cX6_linesPut 110 = .ok (.aload_n 0, 1) := by decide +kernel
theorem dX6_linesPut_111 : decode cX6_linesPut 111 = .ok (.getfield 37, 3) := by decide +kernel
theorem dX6_linesPut_114 : decode cX6_linesPut 114 = .ok (.iload_n 3, 1) := by decide +kernel
theorem dX6_linesPut_115 : decode cX6_linesPut 115 = .ok (.iaload, 1) := by decide +kernel
theorem dX6_linesPut_116 : decode cX6_linesPut 116 = .ok (.iload_n 1, 1) := by decide +kernel
theorem dX6_linesPut_117 : decode cX6_linesPut 117 = .ok (.bipush 100, 2) := by decide +kernel
theorem dX6_linesPut_119 : decode cX6_linesPut 119 = .ok (.imul, 1) := by decide +kernel
theorem dX6_linesPut_120 : decode cX6_linesPut 120 = .ok (.if_icmp .lt 10, 3) := by decide +kernel
theorem dX6_linesPut_123 : decode cX6_linesPut 123 = .ok (.iload_n 2, 1) := by decide +kernel
theorem dX6_linesPut_124 : decode cX6_linesPut 124 = .ok (.bipush 100, 2) := by decide +kernel
theorem dX6_linesPut_126 : decode cX6_linesPut 126 = .ok (.imul, 1) := by decide +kernel
theorem dX6_linesPut_127 : decode cX6_linesPut 127 = .ok (.goto 4, 3) := by decide +kernel
theorem dX6_linesPut_130 : decode cX6_linesPut 130 = .ok (.iconst 0, 1) := by decide +kernel
theorem dX6_linesPut_131 : decode cX6_linesPut 131 = .ok (.iadd, 1) := by decide +kernel
theorem dX6_linesPut_132 : decode cX6_linesPut 132 = .ok (.iastore, 1) := by decide +kernel
theorem dX6_linesPut_133 : decode cX6_linesPut 133 = .ok (.iinc 3 1, 3) := by decide +kernel
theorem dX6_linesPut_136 : decode cX6_linesPut 136 = .ok (.goto (-41), 3) := by decide +kernel
theorem dX6_linesPut_139 : decode cX6_linesPut 139 = .ok (.aload_n 0, 1) := by decide +kernel
theorem dX6_linesPut_140 : decode cX6_linesPut 140 = .ok (.dup, 1) := by decide +kernel
theorem dX6_linesPut_141 : decode cX6_linesPut 141 = .ok (.getfield 43, 3) := by decide +kernel
theorem dX6_linesPut_144 : decode cX6_linesPut 144 = .ok (.aload_n 0, 1) := by decide +kernel
theorem dX6_linesPut_145 : decode cX6_linesPut 145 = .ok (.getfield 43, 3) := by decide +kernel
theorem dX6_linesPut_148 : decode cX6_linesPut 148 = .ok (.iload_n 1, 1) := by decide +kernel
theorem dX6_linesPut_149 : decode cX6_linesPut 149 = .ok (.bipush 100, 2) := by decide +kernel
theorem dX6_linesPut_151 : decode cX6_linesPut 151 = .ok (.imul, 1) := by decide +kernel
theorem dX6_linesPut_152 : decode cX6_linesPut 152 = .ok (.if_icmp .lt 10, 3) := by decide +kernel
theorem dX6_linesPut_155 : decode cX6_linesPut 155 = .ok (.iload_n 2, 1) := by decide +kernel
theorem dX6_linesPut_156 : decode cX6_linesPut 156 = .ok (.bipush 100, 2) := by decide +kernel
theorem dX6_linesPut_158 : decode cX6_linesPut 158 = .ok (.imul, 1) := by decide +kernel
theorem dX6_linesPut_159 : decode cX6_linesPut 159 = .ok (.goto 4, 3) := by decide +kernel
theorem dX6_linesPut_162 : decode cX6_linesPut 162 = .ok (.iconst 0, 1) := by decide +kernel
theorem dX6_linesPut_163 : decode cX6_linesPut 163 = .ok (.iadd, 1) := by decide +kernel
theorem dX6_linesPut_164 : decode cX6_linesPut 164 = .ok (.putfield 43, 3) := by decide +kernel
theorem dX6_linesPut_167 : decode cX6_linesPut 167 = .ok (.iconst 0, 1) := by decide +kernel
theorem dX6_linesPut_168 : decode cX6_linesPut 168 = .ok (.istore_n 3, 1) := by decide +kernel
theorem dX6_linesPut_169 : decode cX6_linesPut 169 = .ok (.iload_n 3, 1) := by decide +kernel
theorem dX6_linesPut_170 : decode cX6_linesPut 170 = .ok (.aload_n 0, 1) := by decide +kernel
theorem dX6_linesPut_171 : decode cX6_linesPut 171 = .ok (.getfield 59, 3) := by decide +kernel
theorem dX6_linesPut_174 : decode cX6_linesPut 174 = .ok (.if_icmp .ge 57, 3) := by decide +kernel
theorem dX6_linesPut_177 : decode cX6_linesPut 177 = .ok (.aload_n 0, 1) := by decide +kernel
theorem dX6_linesPut_178 : decode cX6_linesPut 178 = .ok (.getfield 49, 3) := by decide +kernel
theorem dX6_linesPut_181 : decode cX6_linesPut 181 = .ok (.iload_n 3, 1) := by decide +kernel
theorem dX6_linesPut_182 : decode cX6_linesPut 182 = .ok (.dup2, 1) := by decide +kernel
theorem dX6_linesPut_183 : decode cX6_linesPut 183 = .ok (.iaload, 1) := by decide +kernel
theorem dX6_linesPut_184 : decode cX6_linesPut 184 = .ok (.aload_n 0, 1) := by decide +kernel
theorem dX6_linesPut_185 : decode cX6_linesPut 185 = .ok (.getfield 49, 3) := by decide +kernel
theorem dX6_linesPut_188 : decode cX6_linesPut 188 = .ok (.iload_n 3, 1) := by decide +kernel
theorem dX6_linesPut_189 : decode cX6_linesPut 189 = .ok (.iaload, 1) := by decide +kernel
theorem dX6_linesPut_190 : decode cX6_linesPut 190 = .ok (.iload_n 1, 1) := by decide +kernel
theorem dX6_linesPut_191 : decode cX6_linesPut 191 = .ok (.if_icmp .lt 7, 3) := by decide +kernel
theorem dX6_linesPut_194 : decode cX6_linesPut 194 = .ok (.iload_n 2, 1) := by decide +kernel
theorem dX6_linesPut_195 : decode cX6_linesPut 195 = .ok (.goto 4, 3) := by decide +kernel
theorem dX6_linesPut_198 : decode cX6_linesPut 198 = .ok (.iconst 0, 1) := by decide +kernel
theorem dX6_linesPut_199 : decode cX6_linesPut 199 = .ok (.iadd, 1) := by decide +kernel
theorem dX6_linesPut_200 : decode cX6_linesPut 200 = .ok (.iastore, 1) := by decide +kernel
theorem dX6_linesPut_201 : decode cX6_linesPut 201 = .ok (.aload_n 0, 1) := by decide +kernel
theorem dX6_linesPut_202 : decode cX6_linesPut 202 = .ok (.getfield 52, 3) := by decide +kernel
theorem dX6_linesPut_205 : decode cX6_linesPut 205 = .ok (.iload_n 3, 1) := by decide +kernel
theorem dX6_linesPut_206 : decode cX6_linesPut 206 = .ok (.dup2, 1) := by decide +kernel
theorem dX6_linesPut_207 : decode cX6_linesPut 207 = .ok (.iaload, 1) := by decide +kernel
theorem dX6_linesPut_208 : decode cX6_linesPut 208 = .ok (.aload_n 0, 1) := by decide +kernel
theorem dX6_linesPut_209 : decode cX6_linesPut 209 = .ok (.getfield 52, 3) := by decide +kernel
theorem dX6_linesPut_212 : decode cX6_linesPut 212 = .ok (.iload_n 3, 1) := by decide +kernel
theorem dX6_linesPut_213 : decode cX6_linesPut 213 = .ok (.iaload, 1) := by decide +kernel
theorem dX6_linesPut_214 : decode cX6_linesPut 214 = .ok (.iload_n 1, 1) := by decide +kernel
theorem dX6_linesPut_215 : decode cX6_linesPut 215 = .ok (.if_icmp .lt 7, 3) := by decide +kernel
theorem dX6_linesPut_218 : decode cX6_linesPut 218 = .ok (.iload_n 2, 1) := by decide +kernel
theorem dX6_linesPut_219 : decode cX6_linesPut 219 = .ok (.goto 4, 3) := by decide +kernel
theorem dX6_linesPut_222 : decode cX6_linesPut 222 = .ok (.iconst 0, 1) := by decide +kernel
theorem dX6_linesPut_223 : decode cX6_linesPut 223 = .ok (.iadd, 1) := by decide +kernel
theorem dX6_linesPut_224 : decode cX6_linesPut 224 = .ok (.iastore, 1) := by decide +kernel
theorem dX6_linesPut_225 : decode cX6_linesPut 225 = .ok (.iinc 3 1, 3) := by decide +kernel
theorem dX6_linesPut_228 : decode cX6_linesPut 228 = .ok (.goto (-59), 3) := by decide +kernel
theorem dX6_linesPut_231 : decode cX6_linesPut 231 = .ok (.return_, 1) := by decide +kernel
theorem dX6_linesGone_0 : decode cX6_linesGone 0 = .ok (.iload_n 1, 1) := by decide +kernel
theorem dX6_linesGone_1 : decode cX6_linesGone 1 = .ok (.bipush 100, 2) := by decide +kernel
theorem dX6_linesGone_3 : decode cX6_linesGone 3 = .ok (.imul, 1) := by decide +kernel
theorem dX6_linesGone_4 : decode cX6_linesGone 4 = .ok (.istore 4, 2) := by decide +kernel
theorem dX6_linesGone_6 : decode cX6_linesGone 6 = .ok (.iload_n 1, 1) := by decide +kernel
theorem dX6_linesGone_7 : decode cX6_linesGone 7 = .ok (.iload_n 2, 1) := by decide +kernel
theorem dX6_linesGone_8 : decode cX6_linesGone 8 = .ok (.iadd, 1) := by decide +kernel
theorem dX6_linesGone_9 : decode cX6_linesGone 9 = .ok (.bipush 100, 2) := by decide +kernel
theorem dX6_linesGone_11 : decode cX6_linesGone 11 = .ok (.imul, 1) := by decide +kernel
theorem dX6_linesGone_12 : decode cX6_linesGone 12 = .ok (.istore 5, 2) := by decide +kernel
theorem dX6_linesGone_14 : decode cX6_linesGone 14 = .ok (.iconst 0, 1) := by decide +kernel
theorem dX6_linesGone_15 : decode cX6_linesGone 15 = .ok (.istore 6, 2) := by decide +kernel
theorem dX6_linesGone_17 : decode cX6_linesGone 17 = .ok (.iload 6, 2) := by decide +kernel
theorem dX6_linesGone_19 : decode cX6_linesGone 19 = .ok (.aload_n 0, 1) := by decide +kernel
theorem dX6_linesGone_20 : decode cX6_linesGone 20 = .ok (.getfield 24, 3) := by decide +kernel
theorem dX6_linesGone_23 : decode cX6_linesGone 23 = .ok (.arraylength, 1) := by decide +kernel
theorem dX6_linesGone_24 : decode cX6_linesGone 24 = .ok (.if_icmp .ge 66, 3) := by decide +kernel
theorem dX6_linesGone_27 : decode cX6_linesGone 27 = .ok (.aload_n 0, 1) := by decide +kernel
theorem dX6_linesGone_28 : decode cX6_linesGone 28 = .ok (.getfield 24, 3) := by decide +kernel
theorem dX6_linesGone_31 : decode cX6_linesGone 31 = .ok (.iload 6, 2) := by decide +kernel
theorem dX6_linesGone_33 : decode cX6_linesGone 33 = .ok (.aload_n 0, 1) := by decide +kernel
theorem dX6_linesGone_34 : decode cX6_linesGone 34 = .ok (.getfield 24, 3) := by decide +kernel
theorem dX6_linesGone_37 : decode cX6_linesGone 37 = .ok (.iload 6, 2) := by decide +kernel
theorem dX6_linesGone_39 : decode cX6_linesGone 39 = .ok (.iaload, 1) := by decide +kernel
theorem dX6_linesGone_40 : decode cX6_linesGone 40 = .ok (.iload 4, 2) := by decide +kernel
theorem dX6_linesGone_42 : decode cX6_linesGone 42 = .ok (.if_icmp .ge 13, 3) := by decide +kernel
theorem dX6_linesGone_45 : decode cX6_linesGone 45 = .ok (.aload_n 0, 1) := by decide +kernel
theorem dX6_linesGone_46 : decode cX6_linesGone 46 = .ok (.getfield 24, 3) := by decide +kernel
theorem dX6_linesGone_49 : decode cX6_linesGone 49 = .ok (.iload 6, 2) := by decide +kernel
theorem dX6_linesGone_51 : decode cX6_linesGone 51 = .ok (.iaload, 1) := by decide +kernel
theorem dX6_linesGone_52 : decode cX6_linesGone 52 = .ok (.goto 31, 3) := by decide +kernel
theorem dX6_linesGone_55 : decode cX6_linesGone 55 = .ok (.aload_n 0, 1) := by decide +kernel
theorem dX6_linesGone_56 : decode cX6_linesGone 56 = .ok (.getfield 24, 3) := by decide +kernel
theorem dX6_linesGone_59 : decode cX6_linesGone 59 = .ok (.iload 6, 2) := by decide +kernel
theorem dX6_linesGone_61 : decode cX6_linesGone 61 = .ok (.iaload, 1) := by decide +kernel
theorem dX6_linesGone_62 : decode cX6_linesGone 62 = .ok (.iload 5, 2) := by decide +kernel
theorem dX6_linesGone_64 : decode cX6_linesGone 64 = .ok (.if_icmp .ge 7, 3) := by decide +kernel
theorem dX6_linesGone_67 : decode cX6_linesGone 67 = .ok (.iconst (-1), 1) := by decide +kernel
theorem dX6_linesGone_68 : decode cX6_linesGone 68 = .ok (.goto 15, 3) := by decide +kernel
theorem dX6_linesGone_71 : decode cX6_linesGone 71 = .ok (.aload_n 0, 1) := by decide +kernel
theorem dX6_linesGone_72 : decode cX6_linesGone 72 = .ok (.getfield 24, 3) := by decide +kernel
theorem dX6_linesGone_75 : decode cX6_linesGone 75 = .ok (.iload 6, 2) := by decide +kernel
theorem dX6_linesGone_77 : decode cX6_linesGone 77 = .ok (.iaload, 1) := by decide +kernel
theorem dX6_linesGone_78 : decode cX6_linesGone 78 = .ok (.iload_n 2, 1) := by decide +kernel
theorem dX6_linesGone_79 : decode cX6_linesGone 79 = .ok (.bipush 100, 2) := by decide +kernel
theorem dX6_linesGone_81 : decode cX6_linesGone 81 = .ok (.imul, 1) := by decide +kernel
theorem dX6_linesGone_82 : decode cX6_linesGone 82 = .ok (.isub, 1) := by decide +kernel
theorem dX6_linesGone_83 : decode cX6_linesGone 83 = .ok (.iastore, 1) := by decide +kernel
theorem dX6_linesGone_84 : decode cX6_linesGone 84 = .ok (.iinc 6 1, 3) := by decide +kernel
theorem dX6_linesGone_87 : decode cX6_linesGone 87 = .ok (.goto (-70), 3) := by decide +kernel
theorem dX6_linesGone_90 : decode cX6_linesGone 90 = .ok (.iconst 0, 1) := by decide +kernel
theorem dX6_linesGone_91 : decode cX6_linesGone 91 = .ok (.istore 6, 2) := by decide +kernel
theorem dX6_linesGone_93 : decode cX6_linesGone 93 = .ok (.iconst (-1), 1) := by decide +kernel
theorem dX6_linesGone_94 : decode cX6_linesGone 94 = .ok (.istore 7, 2) := by decide +kernel
theorem dX6_linesGone_96 : decode cX6_linesGone 96 = .ok (.iconst 0, 1) := by decide +kernel
theorem dX6_linesGone_97 : decode cX6_linesGone 97 = .ok (.istore 8, 2) := by decide +kernel
theorem dX6_linesGone_99 : decode cX6_linesGone 99 = .ok (.iload 8, 2) := by decide +kernel
theorem dX6_linesGone_101 : decode cX6_linesGone 101 = .ok (.aload_n 0, 1) := by decide +kernel
theorem dX6_linesGone_102 : decode cX6_linesGone 102 = .ok (.getfield 31, 3) := by decide +kernel
theorem dX6_linesGone_105 : decode cX6_linesGone 105 = .ok (.if_icmp .ge 95, 3) := by decide +kernel
theorem dX6_linesGone_108 : decode cX6_linesGone 108 = .ok (.aload_n 0, 1) := by decide +kernel
theorem dX6_linesGone_109 : decode cX6_linesGone 109 = .ok (.getfield 28, 3) := by decide +kernel
theorem dX6_linesGone_112 : decode cX6_linesGone 112 = .ok (.iload 8, 2) := by decide +kernel
theorem dX6_linesGone_114 : decode cX6_linesGone 114 = .ok (.iaload, 1) := by decide +kernel
theorem dX6_linesGone_115 : decode cX6_linesGone 115 = .ok (.iload 4, 2) := by decide +kernel
theorem dX6_linesGone_117 : decode cX6_linesGone 117 = .ok (.if_icmp .lt 15, 3) := by decide +kernel
theorem dX6_linesGone_120 : decode cX6_linesGone 120 = .ok (.aload_n 0, 1) := by decide +kernel
theorem dX6_linesGone_121 : decode cX6_linesGone 121 = .ok (.getfield 28, 3) := by decide +kernel
theorem dX6_linesGone_124 : decode cX6_linesGone 124 = .ok (.iload 8, 2) := by decide +kernel
theorem dX6_linesGone_126 : decode cX6_linesGone 126 = .ok (.iaload, 1) := by decide +kernel
theorem dX6_linesGone_127 : decode cX6_linesGone 127 = .ok (.iload 5, 2) := by decide +kernel
theorem dX6_linesGone_129 : decode cX6_linesGone 129 = .ok (.if_icmp .lt 65, 3) := by decide +kernel
theorem dX6_linesGone_132 : decode cX6_linesGone 132 = .ok (.iload 8, 2) := by decide +kernel
theorem dX6_linesGone_134 : decode cX6_linesGone 134 = .ok (.aload_n 0, 1) := by decide +kernel
theorem dX6_linesGone_135 : decode cX6_linesGone 135 = .ok (.getfield 34, 3) := by decide +kernel
theorem dX6_linesGone_138 : decode cX6_linesGone 138 = .ok (.if_icmp .ne 8, 3) := by decide +kernel
theorem dX6_linesGone_141 : decode cX6_linesGone 141 = .ok (.iload 6, 2) := by decide +kernel
theorem dX6_linesGone_143 : decode cX6_linesGone 143 = .ok (.goto 5, 3) := by decide +kernel
theorem dX6_linesGone_146 : decode cX6_linesGone 146 = .ok (.iload 7, 2) := by decide +kernel
theorem dX6_linesGone_148 : decode cX6_linesGone 148 = .ok (.istore 7, 2) := by decide +kernel
theorem dX6_linesGone_150 : decode cX6_linesGone 150 = .ok (.aload_n 0, 1) := by decide +kernel
theorem dX6_linesGone_151 : decode cX6_linesGone 151 = .ok (.getfield 28, 3) := by decide +kernel
theorem dX6_linesGone_154 : decode cX6_linesGone 154 = .ok (.iload 6, 2) := by decide +kernel
theorem dX6_linesGone_156 : decode cX6_linesGone 156 = .ok (.aload_n 0, 1) := by decide +kernel
theorem dX6_linesGone_157 : decode cX6_linesGone 157 = .ok (.getfield 28, 3) := by decide +kernel
theorem dX6_linesGone_160 : decode cX6_linesGone 160 = .ok (.iload 8, 2) := by decide +kernel
theorem dX6_linesGone_162 : decode cX6_linesGone 162 = .ok (.iaload, 1) := by decide +kernel
theorem dX6_linesGone_163 : decode cX6_linesGone 163 = .ok (.iload 4, 2) := by decide +kernel
theorem dX6_linesGone_165 : decode cX6_linesGone 165 = .ok (.if_icmp .ge 13, 3) := by decide +kernel
theorem dX6_linesGone_168 : decode cX6_linesGone 168 = .ok (.aload_n 0, 1) := by decide +kernel
theorem dX6_linesGone_169 : decode cX6_linesGone 169 = .ok (.getfield 28, 3) := by decide +kernel
theorem dX6_linesGone_172 : decode cX6_linesGone 172 = .ok (.iload 8, 2) := by decide +kernel
theorem dX6_linesGone_174 : decode cX6_linesGone 174 = .ok (.iaload, 1) := by decide +kernel
theorem dX6_linesGone_175 : decode cX6_linesGone 175 = .ok (.goto 15, 3) := by decide +kernel
theorem dX6_linesGone_178 : decode cX6_linesGone 178 = .ok (.aload_n 0, 1) := by decide +kernel
theorem dX6_linesGone_179 : decode cX6_linesGone 179 = .ok (.getfield 28, 3) := by decide +kernel
theorem dX6_linesGone_182 : decode cX6_linesGone 182 = .ok (.iload 8, 2) := by decide +kernel
theorem dX6_linesGone_184 : decode cX6_linesGone 184 = .ok (.iaload, 1) := by decide +kernel
theorem dX6_linesGone_185 : decode cX6_linesGone 185 = .ok (.iload_n 2, 1) := by decide +kernel
theorem dX6_linesGone_186 : decode cX6_linesGone 186 = .ok (.bipush 100, 2) := by decide +kernel
theorem dX6_linesGone_188 : decode cX6_linesGone 188 = .ok (.imul, 1) := by decide +kernel
theorem dX6_linesGone_189 : decode cX6_linesGone 189 = .ok (.isub, 1) := by decide +kernel
theorem dX6_linesGone_190 : decode cX6_linesGone 190 = .ok (.iastore, 1) := by decide +kernel
theorem dX6_linesGone_191 : decode cX6_linesGone 191 = .ok (.iinc 6 1, 3) := by decide +kernel
theorem dX6_linesGone_194 : decode cX6_linesGone 194 = .ok (.iinc 8 1, 3) := by decide +kernel
theorem dX6_linesGone_197 : decode cX6_linesGone 197 = .ok (.goto (-98), 3) := by decide +kernel
theorem dX6_linesGone_200 : decode cX6_linesGone 200 = .ok (.aload_n 0, 1) := by decide +kernel
theorem dX6_linesGone_201 : decode cX6_linesGone 201 = .ok (.iload 6, 2) := by decide +kernel
theorem dX6_linesGone_203 : decode cX6_linesGone 203 = .ok (.putfield 31, 3) := by decide +kernel
theorem dX6_linesGone_206 : decode cX6_linesGone 206 = .ok (.aload_n 0, 1) := by decide +kernel
theorem dX6_linesGone_207 : decode cX6_linesGone 207 = .ok (.iload 7, 2) := by decide +kernel
theorem dX6_linesGone_209 : decode cX6_linesGone 209 = .ok (.putfield 34, 3) := by decide +kernel
theorem dX6_linesGone_212 : decode cX6_linesGone 212 = .ok (.iconst 0, 1) := by decide +kernel
theorem dX6_linesGone_213 : decode cX6_linesGone 213 = .ok (.istore 8, 2) := by decide +kernel
theorem dX6_linesGone_215 : decode cX6_linesGone 215 = .ok (.iload 8, 2) := by decide +kernel
theorem dX6_linesGone_217 : decode cX6_linesGone 217 = .ok (.aload_n 0, 1) := by decide +kernel
theorem dX6_linesGone_218 : decode cX6_linesGone 218 = .ok (.getfield 40, 3) := by decide +kernel
theorem dX6_linesGone_221 : decode cX6_linesGone 221 = .ok (.if_icmp .ge 66, 3) := by decide +kernel
theorem dX6_linesGone_224 : decode cX6_linesGone 224 = .ok (.aload_n 0, 1) := by decide +kernel
theorem dX6_linesGone_225 : decode cX6_linesGone 225 = .ok (.getfield 37, 3) := by decide +kernel
theorem dX6_linesGone_228 : decode cX6_linesGone 228 = .ok (.iload 8, 2) := by decide +kernel
theorem dX6_linesGone_230 : decode cX6_linesGone 230 = .ok (.aload_n 0, 1) := by decide +kernel
theorem dX6_linesGone_231 : decode cX6_linesGone 231 = .ok (.getfield 37, 3) := by decide +kernel
theorem dX6_linesGone_234 : decode cX6_linesGone 234 = .ok (.iload 8, 2) := by decide +kernel
theorem dX6_linesGone_236 : decode cX6_linesGone 236 = .ok (.iaload, 1) := by decide +kernel
theorem dX6_linesGone_237 : decode cX6_linesGone 237 = .ok (.iload 4, 2) := by decide +kernel
theorem dX6_linesGone_239 : decode cX6_linesGone 239 = .ok (.if_icmp .ge 13, 3) := by decide +kernel
theorem dX6_linesGone_242 : decode cX6_linesGone 242 = .ok (.aload_n 0, 1) := by decide +kernel
theorem dX6_linesGone_243 : decode cX6_linesGone 243 = .ok (.getfield 37, 3) := by decide +kernel
theorem dX6_linesGone_246 : decode cX6_linesGone 246 = .ok (.iload 8, 2) := by decide +kernel
theorem dX6_linesGone_248 : decode cX6_linesGone 248 = .ok (.iaload, 1) := by decide +kernel
theorem dX6_linesGone_249 : decode cX6_linesGone 249 = .ok (.goto 31, 3) := by decide +kernel
theorem dX6_linesGone_252 : decode cX6_linesGone 252 = .ok (.aload_n 0, 1) := by decide +kernel
theorem dX6_linesGone_253 : decode cX6_linesGone 253 = .ok (.getfield 37, 3) := by decide +kernel
theorem dX6_linesGone_256 : decode cX6_linesGone 256 = .ok (.iload 8, 2) := by decide +kernel
theorem dX6_linesGone_258 : decode cX6_linesGone 258 = .ok (.iaload, 1) := by decide +kernel
theorem dX6_linesGone_259 : decode cX6_linesGone 259 = .ok (.iload 5, 2) := by decide +kernel
theorem dX6_linesGone_261 : decode cX6_linesGone 261 = .ok (.if_icmp .ge 7, 3) := by decide +kernel
theorem dX6_linesGone_264 : decode cX6_linesGone 264 = .ok (.iconst (-1), 1) := by decide +kernel
theorem dX6_linesGone_265 : decode cX6_linesGone 265 = .ok (.goto 15, 3) := by decide +kernel
theorem dX6_linesGone_268 : decode cX6_linesGone 268 = .ok (.aload_n 0, 1) := by decide +kernel
theorem dX6_linesGone_269 : decode cX6_linesGone 269 = .ok (.getfield 37, 3) := by decide +kernel
theorem dX6_linesGone_272 : decode cX6_linesGone 272 = .ok (.iload 8, 2) := by decide +kernel
theorem dX6_linesGone_274 : decode cX6_linesGone 274 = .ok (.iaload, 1) := by decide +kernel
theorem dX6_linesGone_275 : decode cX6_linesGone 275 = .ok (.iload_n 2, 1) := by decide +kernel
theorem dX6_linesGone_276 : decode cX6_linesGone 276 = .ok (.bipush 100, 2) := by decide +kernel
theorem dX6_linesGone_278 : decode cX6_linesGone 278 = .ok (.imul, 1) := by decide +kernel
theorem dX6_linesGone_279 : decode cX6_linesGone 279 = .ok (.isub, 1) := by decide +kernel
theorem dX6_linesGone_280 : decode cX6_linesGone 280 = .ok (.iastore, 1) := by decide +kernel
theorem dX6_linesGone_281 : decode cX6_linesGone 281 = .ok (.iinc 8 1, 3) := by decide +kernel
theorem dX6_linesGone_284 : decode cX6_linesGone 284 = .ok (.goto (-69), 3) := by decide +kernel
theorem dX6_linesGone_287 : decode cX6_linesGone 287 = .ok (.aload_n 0, 1) := by decide +kernel
theorem dX6_linesGone_288 : decode cX6_linesGone 288 = .ok (.getfield 43, 3) := by decide +kernel
theorem dX6_linesGone_291 : decode cX6_linesGone 291 = .ok (.iload 4, 2) := by decide +kernel
theorem dX6_linesGone_293 : decode cX6_linesGone 293 = .ok (.if_icmp .lt 46, 3) := by decide +kernel
theorem dX6_linesGone_296 : decode cX6_linesGone 296 = .ok (.aload_n 0, 1) := by decide +kernel
theorem dX6_linesGone_297 : decode cX6_linesGone 297 = .ok (.aload_n 0, 1) := by decide +kernel
theorem dX6_linesGone_298 : decode cX6_linesGone 298 = .ok (.getfield 43, 3) := by decide +kernel
theorem dX6_linesGone_301 : decode cX6_linesGone 301 = .ok (.iload 5, 2) := by decide +kernel
theorem dX6_linesGone_303 : decode cX6_linesGone 303 = .ok (.if_icmp .ge 24, 3) := by decide +kernel
theorem dX6_linesGone_306 : decode cX6_linesGone 306 = .ok (.iload_n 1, 1) := by decide +kernel
theorem dX6_linesGone_307 : decode cX6_linesGone 307 = .ok (.iload_n 3, 1) := by decide +kernel
theorem dX6_linesGone_308 : decode cX6_linesGone 308 = .ok (.iconst 1, 1) := by decide +kernel
theorem dX6_linesGone_309 : decode cX6_linesGone 309 = .ok (.isub, 1) := by decide +kernel
theorem dX6_linesGone_310 : decode cX6_linesGone 310 = .ok (.invokestatic 73, 3) := by decide +kernel
theorem dX6_linesGone_313 : decode cX6_linesGone 313 = .ok (.bipush 100, 2) := by decide +kernel
theorem dX6_linesGone_315 : decode cX6_linesGone 315 = .ok (.imul, 1) := by decide +kernel
theorem dX6_linesGone_316 : decode cX6_linesGone 316 = .ok (.aload_n 0, 1) := by decide +kernel
theorem dX6_linesGone_317 : decode cX6_linesGone 317 = .ok (.getfield 43, 3) := by decide +kernel
theorem dX6_linesGone_320 : decode cX6_linesGone 320 = .ok (.bipush 100, 2) := by decide +kernel
theorem dX6_linesGone_322 : decode cX6_linesGone 322 = .ok (.irem, 1) := by decide +kernel
theorem dX6_linesGone_323 : decode cX6_linesGone 323 = .ok (.iadd, 1) := by decide +kernel
theorem dX6_linesGone_324 : decode cX6_linesGone 324 = .ok (.goto 12, 3) := by decide +kernel
theorem dX6_linesGone_327 : decode cX6_linesGone 327 = .ok (.aload_n 0, 1) := by decide +kernel
theorem dX6_linesGone_328 : decode cX6_linesGone 328 = .ok (.getfield 43, 3) := by decide +kernel
theorem dX6_linesGone_331 : decode cX6_linesGone 331 = .ok (.iload_n 2, 1) := by decide +kernel
theorem dX6_linesGone_332 : decode cX6_linesGone 332 = .ok (.bipush 100, 2) := by decide +kernel
theorem dX6_linesGone_334 : decode cX6_linesGone 334 = .ok (.imul, 1) := by decide +kernel
theorem dX6_linesGone_335 : decode cX6_linesGone 335 = .ok (.isub, 1) := by decide +kernel
theorem dX6_linesGone_336 : decode cX6_linesGone 336 = .ok (.putfield 43, 3) := by decide +kernel
theorem dX6_linesGone_339 : decode cX6_linesGone 339 = .ok (.iconst 0, 1) := by decide +kernel
theorem dX6_linesGone_340 : decode cX6_linesGone 340 = .ok (.istore 6, 2) := by decide +kernel
theorem dX6_linesGone_342 : decode cX6_linesGone 342 = .ok (.iconst 0, 1) := by decide +kernel
theorem dX6_linesGone_343 : decode cX6_linesGone 343 = .ok (.istore 8, 2) := by decide +kernel
theorem dX6_linesGone_345 : decode cX6_linesGone 345 = .ok (.iload 8, 2) := by decide +kernel
theorem dX6_linesGone_347 : decode cX6_linesGone 347 = .ok (.aload_n 0, 1) := by decide +kernel
theorem dX6_linesGone_348 : decode cX6_linesGone 348 = .ok (.getfield 59, 3) := by decide +kernel
theorem dX6_linesGone_351 : decode cX6_linesGone 351 = .ok (.if_icmp .ge 125, 3) := by decide +kernel
theorem dX6_linesGone_354 : decode cX6_linesGone 354 = .ok (.aload_n 0, 1) := by decide +kernel
theorem dX6_linesGone_355 : decode cX6_linesGone 355 = .ok (.getfield 49, 3) := by decide +kernel
theorem dX6_linesGone_358 : decode cX6_linesGone 358 = .ok (.iload 8, 2) := by decide +kernel
theorem dX6_linesGone_360 : decode cX6_linesGone 360 = .ok (.iaload, 1) := by decide +kernel
theorem dX6_linesGone_361 : decode cX6_linesGone 361 = .ok (.iload_n 1, 1) := by decide +kernel
theorem dX6_linesGone_362 : decode cX6_linesGone 362 = .ok (.if_icmp .ge 13, 3) := by decide +kernel
theorem dX6_linesGone_365 : decode cX6_linesGone 365 = .ok (.aload_n 0, 1) := by decide +kernel
theorem dX6_linesGone_366 : decode cX6_linesGone 366 = .ok (.getfield 49, 3) := by decide +kernel
theorem dX6_linesGone_369 : decode cX6_linesGone 369 = .ok (.iload 8, 2) := by decide +kernel
theorem dX6_linesGone_371 : decode cX6_linesGone 371 = .ok (.iaload, 1) := by decide +kernel
theorem dX6_linesGone_372 : decode cX6_linesGone 372 = .ok (.goto 16, 3) := by decide +kernel
theorem dX6_linesGone_375 : decode cX6_linesGone 375 = .ok (.iload_n 1, 1) := by decide +kernel
theorem dX6_linesGone_376 : decode cX6_linesGone 376 = .ok (.aload_n 0, 1) := by decide +kernel
theorem dX6_linesGone_377 : decode cX6_linesGone 377 = .ok (.getfield 49, 3) := by decide +kernel
theorem dX6_linesGone_380 : decode cX6_linesGone 380 = .ok (.iload 8, 2) := by decide +kernel
theorem dX6_linesGone_382 : decode cX6_linesGone 382 = .ok (.iaload, 1) := by decide +kernel
theorem dX6_linesGone_383 : decode cX6_linesGone 383 = .ok (.iload_n 2, 1) := by decide +kernel
theorem dX6_linesGone_384 : decode cX6_linesGone 384 = .ok (.isub, 1) := by decide +kernel
theorem dX6_linesGone_385 : decode cX6_linesGone 385 = .ok (.invokestatic 79, 3) := by decide +kernel
theorem dX6_linesGone_388 : decode cX6_linesGone 388 = .ok (.istore 9, 2) := by decide +kernel
theorem dX6_linesGone_390 : decode cX6_linesGone 390 = .ok (.aload_n 0, 1) := by decide +kernel
theorem dX6_linesGone_391 : decode cX6_linesGone 391 = .ok (.getfield 52, 3) := by decide +kernel
theorem dX6_linesGone_394 : decode cX6_linesGone 394 = .ok (.iload 8, 2) := by decide +kernel
theorem dX6_linesGone_396 : decode cX6_linesGone 396 = .ok (.iaload, 1) := by decide +kernel
theorem dX6_linesGone_397 : decode cX6_linesGone 397 = .ok (.iload_n 1, 1) := by decide +kernel
theorem dX6_linesGone_398 : decode cX6_linesGone 398 = .ok (.if_icmp .ge 13, 3) := by decide +kernel
theorem dX6_linesGone_401 : decode cX6_linesGone 401 = .ok (.aload_n 0, 1) := by decide +kernel
theorem dX6_linesGone_402 : decode cX6_linesGone 402 = .ok (.getfield 52, 3) := by decide +kernel
theorem dX6_linesGone_405 : decode cX6_linesGone 405 = .ok (.iload 8, 2) := by decide +kernel
theorem dX6_linesGone_407 : decode cX6_linesGone 407 = .ok (.iaload, 1) := by decide +kernel
theorem dX6_linesGone_408 : decode cX6_linesGone 408 = .ok (.goto 18, 3) := by decide +kernel
theorem dX6_linesGone_411 : decode cX6_linesGone 411 = .ok (.iload_n 1, 1) := by decide +kernel
theorem dX6_linesGone_412 : decode cX6_linesGone 412 = .ok (.iconst 1, 1) := by decide +kernel
theorem dX6_linesGone_413 : decode cX6_linesGone 413 = .ok (.isub, 1) := by decide +kernel
theorem dX6_linesGone_414 : decode cX6_linesGone 414 = .ok (.aload_n 0, 1) := by decide +kernel
theorem dX6_linesGone_415 : decode cX6_linesGone 415 = .ok (.getfield 52, 3) := by decide +kernel
theorem dX6_linesGone_418 : decode cX6_linesGone 418 = .ok (.iload 8, 2) := by decide +kernel
theorem dX6_linesGone_420 : decode cX6_linesGone 420 = .ok (.iaload, 1) := by decide +kernel
theorem dX6_linesGone_421 : decode cX6_linesGone 421 = .ok (.iload_n 2, 1) := by decide +kernel
theorem dX6_linesGone_422 : decode cX6_linesGone 422 = .ok (.isub, 1) := by decide +kernel
theorem dX6_linesGone_423 : decode cX6_linesGone 423 = .ok (.invokestatic 79, 3) := by decide +kernel
theorem dX6_linesGone_426 : decode cX6_linesGone 426 = .ok (.istore 10, 2) := by decide +kernel
theorem dX6_linesGone_428 : decode cX6_linesGone 428 = .ok (.iload 9, 2) := by decide +kernel
theorem dX6_linesGone_430 : decode cX6_linesGone 430 = .ok (.iload 10, 2) := by decide +kernel
theorem dX6_linesGone_432 : decode cX6_linesGone 432 = .ok (.if_icmp .ge 38, 3) := by decide +kernel
theorem dX6_linesGone_435 : decode cX6_linesGone 435 = .ok (.aload_n 0, 1) := by decide +kernel
theorem dX6_linesGone_436 : decode cX6_linesGone 436 = .ok (.getfield 49, 3) := by decide +kernel
theorem dX6_linesGone_439 : decode cX6_linesGone 439 = .ok (.iload 6, 2) := by decide +kernel
theorem dX6_linesGone_441 : decode cX6_linesGone 441 = .ok (.iload 9, 2) := by decide +kernel
theorem dX6_linesGone_443 : decode cX6_linesGone 443 = .ok (.iastore, 1) := by decide +kernel
theorem dX6_linesGone_444 : decode cX6_linesGone 444 = .ok (.aload_n 0, 1) := by decide +kernel
theorem dX6_linesGone_445 : decode cX6_linesGone 445 = .ok (.getfield 52, 3) := by decide +kernel
theorem dX6_linesGone_448 : decode cX6_linesGone 448 = .ok (.iload 6, 2) := by decide +kernel
theorem dX6_linesGone_450 : decode cX6_linesGone 450 = .ok (.iload 10, 2) := by decide +kernel
theorem dX6_linesGone_452 : decode cX6_linesGone 452 = .ok (.iastore, 1) := by decide +kernel
theorem dX6_linesGone_453 : decode cX6_linesGone 453 = .ok (.aload_n 0, 1) := by decide +kernel
theorem dX6_linesGone_454 : decode cX6_linesGone 454 = .ok (.getfield 55, 3) := by decide +kernel
theorem dX6_linesGone_457 : decode cX6_linesGone 457 = .ok (.iload 6, 2) := by decide +kernel
theorem dX6_linesGone_459 : decode cX6_linesGone 459 = .ok (.aload_n 0, 1) := by decide +kernel
theorem dX6_linesGone_460 : decode cX6_linesGone 460 = .ok (.getfield 55, 3) := by decide +kernel
theorem dX6_linesGone_463 : decode cX6_linesGone 463 = .ok (.iload 8, 2) := by decide +kernel
theorem dX6_linesGone_465 : decode cX6_linesGone 465 = .ok (.baload, 1) := by decide +kernel
theorem dX6_linesGone_466 : decode cX6_linesGone 466 = .ok (.bastore, 1) := by decide +kernel
theorem dX6_linesGone_467 : decode cX6_linesGone 467 = .ok (.iinc 6 1, 3) := by decide +kernel
theorem dX6_linesGone_470 : decode cX6_linesGone 470 = .ok (.iinc 8 1, 3) := by decide +kernel
theorem dX6_linesGone_473 : decode cX6_linesGone 473 = .ok (.goto (-128), 3) := by decide +kernel
theorem dX6_linesGone_476 : decode cX6_linesGone 476 = .ok (.aload_n 0, 1) := by decide +kernel
theorem dX6_linesGone_477 : decode cX6_linesGone 477 = .ok (.iload 6, 2) := by decide +kernel
theorem dX6_linesGone_479 : decode cX6_linesGone 479 = .ok (.putfield 59, 3) := by decide +kernel
theorem dX6_linesGone_482 : decode cX6_linesGone 482 = .ok (.return_, 1) := by decide +kernel
theorem dX7_top_0 : decode cX7_top 0 = .ok (.iconst 0, 1) := by decide +kernel
theorem dX7_top_1 : decode cX7_top 1 = .ok (.aload_n 0, 1) := by decide +kernel
theorem dX7_top_2 : decode cX7_top 2 = .ok (.getfield 40, 3) := by decide +kernel
theorem dX7_top_5 : decode cX7_top 5 = .ok (.bipush 21, 2) := by decide +kernel
theorem dX7_top_7 : decode cX7_top 7 = .ok (.invokestatic 53, 3) := by decide +kernel
theorem dX7_top_10 : decode cX7_top 10 = .ok (.iconst 1, 1) := by decide +kernel
theorem dX7_top_11 : decode cX7_top 11 = .ok (.isub, 1) := by decide +kernel
theorem dX7_top_12 : decode cX7_top 12 = .ok (.invokestatic 59, 3) := by decide +kernel
theorem dX7_top_15 : decode cX7_top 15 = .ok (.ireturn, 1) := by decide +kernel
theorem dX7_isOn_0 : decode cX7_isOn 0 = .ok (.aload_n 0, 1) := by decide +kernel
theorem dX7_isOn_1 : decode cX7_isOn 1 = .ok (.getfield 40, 3) := by decide +kernel
theorem dX7_isOn_4 : decode cX7_isOn 4 = .ok (.ifCond .le 20, 3) := by decide +kernel
theorem dX7_isOn_7 : decode cX7_isOn 7 = .ok (.aload_n 0, 1) := by decide +kernel
theorem dX7_isOn_8 : decode cX7_isOn 8 = .ok (.getfield 11, 3) := by decide +kernel
theorem dX7_isOn_11 : decode cX7_isOn 11 = .ok (.aload_n 0, 1) := by decide +kernel
theorem dX7_isOn_12 : decode cX7_isOn 12 = .ok (.invokevirtual 62, 3) := by decide +kernel
theorem dX7_isOn_15 : decode cX7_isOn 15 = .ok (.iaload, 1) := by decide +kernel
theorem dX7_isOn_16 : decode cX7_isOn 16 = .ok (.iload_n 1, 1) := by decide +kernel
theorem dX7_isOn_17 : decode cX7_isOn 17 = .ok (.if_icmp .ne 7, 3) := by decide +kernel
theorem dX7_isOn_20 : decode cX7_isOn 20 = .ok (.iconst 1, 1) := by decide +kernel
theorem dX7_isOn_21 : decode cX7_isOn 21 = .ok (.goto 4, 3) := by decide +kernel
theorem dX7_isOn_24 : decode cX7_isOn 24 = .ok (.iconst 0, 1) := by decide +kernel
theorem dX7_isOn_25 : decode cX7_isOn 25 = .ok (.ireturn, 1) := by decide +kernel
theorem dX8_pushDown_0 : decode cX8_pushDown 0 = .ok (.aload_n 0, 1) := by decide +kernel
theorem dX8_pushDown_1 : decode cX8_pushDown 1 = .ok (.getfield 13, 3) := by decide +kernel
theorem dX8_pushDown_4 : decode cX8_pushDown 4 = .ok (.bipush 35, 2) := by decide +kernel
theorem dX8_pushDown_6 : decode cX8_pushDown 6 = .ok (.aaload, 1) := by decide +kernel
theorem dX8_pushDown_7 : decode cX8_pushDown 7 = .ok (.astore_n 1, 1) := by decide +kernel
theorem dX8_pushDown_8 : decode cX8_pushDown 8 = .ok (.bipush 35, 2) := by decide +kernel
theorem dX8_pushDown_10 : decode cX8_pushDown 10 = .ok (.istore_n 2, 1) := by decide +kernel
theorem dX8_pushDown_11 : decode cX8_pushDown 11 = .ok (.iload_n 2, 1) := by decide +kernel
theorem dX8_pushDown_12 : decode cX8_pushDown 12 = .ok (.bipush 27, 2) := by decide +kernel
theorem dX8_pushDown_14 : decode cX8_pushDown 14 = .ok (.if_icmp .le 23, 3) := by decide +kernel
theorem dX8_pushDown_17 : decode cX8_pushDown 17 = .ok (.aload_n 0, 1) := by decide +kernel
theorem dX8_pushDown_18 : decode cX8_pushDown 18 = .ok (.getfield 13, 3) := by decide +kernel
theorem dX8_pushDown_21 : decode cX8_pushDown 21 = .ok (.iload_n 2, 1) := by decide +kernel
theorem dX8_pushDown_22 : decode cX8_pushDown 22 = .ok (.aload_n 0, 1) := by decide +kernel
theorem dX8_pushDown_23 : decode cX8_pushDown 23 = .ok (.getfield 13, 3) := by decide +kernel
theorem dX8_pushDown_26 : decode cX8_pushDown 26 = .ok (.iload_n 2, 1) := by decide +kernel
theorem dX8_pushDown_27 : decode cX8_pushDown 27 = .ok (.iconst 1, 1) := by decide +kernel
theorem dX8_pushDown_28 : decode cX8_pushDown 28 = .ok (.isub, 1) := by decide +kernel
theorem dX8_pushDown_29 : decode cX8_pushDown 29 = .ok (.aaload, 1) := by decide +kernel
theorem dX8_pushDown_30 : decode cX8_pushDown 30 = .ok (.aastore, 1) := by decide +kernel
theorem dX8_pushDown_31 : decode cX8_pushDown 31 = .ok (.iinc 2 (-1), 3) := by decide +kernel
theorem dX8_pushDown_34 : decode cX8_pushDown 34 = .ok (.goto (-23), 3) := by decide +kernel
theorem dX8_pushDown_37 : decode cX8_pushDown 37 = .ok (.aload_n 0, 1) := by decide +kernel
theorem dX8_pushDown_38 : decode cX8_pushDown 38 = .ok (.getfield 13, 3) := by decide +kernel
theorem dX8_pushDown_41 : decode cX8_pushDown 41 = .ok (.bipush 27, 2) := by decide +kernel
theorem dX8_pushDown_43 : decode cX8_pushDown 43 = .ok (.aload_n 1, 1) := by decide +kernel
theorem dX8_pushDown_44 : decode cX8_pushDown 44 = .ok (.aastore, 1) := by decide +kernel
theorem dX8_pushDown_45 : decode cX8_pushDown 45 = .ok (.aload_n 1, 1) := by decide +kernel
theorem dX8_pushDown_46 : decode cX8_pushDown 46 = .ok (.aload_n 0, 1) := by decide +kernel
theorem dX8_pushDown_47 : decode cX8_pushDown 47 = .ok (.getfield 24, 3) := by decide +kernel
theorem dX8_pushDown_50 : decode cX8_pushDown 50 = .ok (.sipush 3000, 3) := by decide +kernel
theorem dX8_pushDown_53 : decode cX8_pushDown 53 = .ok (.invokevirtual 59, 3) := by decide +kernel
theorem dX8_pushDown_56 : decode cX8_pushDown 56 = .ok (.return_, 1) := by decide +kernel
theorem dX8_append_0 : decode cX8_append 0 = .ok (.aload_n 1, 1) := by decide +kernel
theorem dX8_append_1 : decode cX8_append 1 = .ok (.getfield 49, 3) := by decide +kernel
theorem dX8_append_4 : decode cX8_append 4 = .ok (.ifCond .ne 15, 3) := by decide +kernel
theorem dX8_append_7 : decode cX8_append 7 = .ok (.aload_n 1, 1) := by decide +kernel
theorem dX8_append_8 : decode cX8_append 8 = .ok (.aload_n 0, 1) := by decide +kernel
theorem dX8_append_9 : decode cX8_append 9 = .ok (.getfield 24, 3) := by decide +kernel
theorem dX8_append_12 : decode cX8_append 12 = .ok (.sipush 3000, 3) := by decide +kernel
theorem dX8_append_15 : decode cX8_append 15 = .ok (.invokevirtual 59, 3) := by decide +kernel
theorem dX8_append_18 : decode cX8_append 18 = .ok (.return_, 1) := by decide +kernel
theorem dX8_append_19 : decode cX8_append 19 = .ok (.aload_n 1, 1) := by decide +kernel
theorem dX8_append_20 : decode cX8_append 20 = .ok (.getfield 49, 3) := by decide +kernel
theorem dX8_append_23 : decode cX8_append 23 = .ok (.iconst 1, 1) := by decide +kernel
theorem dX8_append_24 : decode cX8_append 24 = .ok (.if_icmp .ne 18, 3) := by decide +kernel
theorem dX8_append_27 : decode cX8_append 27 = .ok (.aload_n 0, 1) := by decide +kernel
theorem dX8_append_28 : decode cX8_append 28 = .ok (.getfield 24, 3) := by decide +kernel
theorem dX8_append_31 : decode cX8_append 31 = .ok (.getfield 49, 3) := by decide +kernel
theorem dX8_append_34 : decode cX8_append 34 = .ok (.iconst 1, 1) := by decide +kernel
theorem dX8_append_35 : decode cX8_append 35 = .ok (.if_icmp .ne 7, 3) := by decide +kernel
theorem dX8_append_38 : decode cX8_append 38 = .ok (.iconst 1, 1) := by decide +kernel
theorem dX8_append_39 : decode cX8_append 39 = .ok (.goto 4, 3) := by decide +kernel
theorem dX8_append_42 : decode cX8_append 42 = .ok (.iconst 0, 1) := by decide +kernel
theorem dX8_append_43 : decode cX8_append 43 = .ok (.istore_n 2, 1) := by decide +kernel
theorem dX8_append_44 : decode cX8_append 44 = .ok (.iload_n 2, 1) := by decide +kernel
theorem dX8_append_45 : decode cX8_append 45 = .ok (.ifCond .ne 18, 3) := by decide +kernel
theorem dX8_append_48 : decode cX8_append 48 = .ok (.aload_n 1, 1) := by decide +kernel
theorem dX8_append_49 : decode cX8_append 49 = .ok (.getfield 49, 3) := by decide +kernel
theorem dX8_append_52 : decode cX8_append 52 = .ok (.iconst 1, 1) := by decide +kernel
theorem dX8_append_53 : decode cX8_append 53 = .ok (.if_icmp .ne 10, 3) := by decide +kernel
theorem dX8_append_56 : decode cX8_append 56 = .ok (.aload_n 1, 1) := by decide +kernel
theorem dX8_append_57 : decode cX8_append 57 = .ok (.bipush 10, 2) := by decide +kernel
theorem dX8_append_59 : decode cX8_append 59 = .ok (.invokevirtual 66, 3) := by decide +kernel
theorem dX8_append_62 : decode cX8_append 62 = .ok (.pop, 1) := by decide +kernel
theorem dX8_append_63 : decode cX8_append 63 = .ok (.iconst 0, 1) := by decide +kernel
theorem dX8_append_64 : decode cX8_append 64 = .ok (.istore_n 3, 1) := by decide +kernel
theorem dX8_append_65 : decode cX8_append 65 = .ok (.iload_n 3, 1) := by decide +kernel
theorem dX8_append_66 : decode cX8_append 66 = .ok (.aload_n 0, 1) := by decide +kernel
theorem dX8_append_67 : decode cX8_append 67 = .ok (.getfield 24, 3) := by decide +kernel
theorem dX8_append_70 : decode cX8_append 70 = .ok (.getfield 52, 3) := by decide +kernel
theorem dX8_append_73 : decode cX8_append 73 = .ok (.if_icmp .ge 23, 3) := by decide +kernel
theorem dX8_append_76 : decode cX8_append 76 = .ok (.aload_n 1, 1) := by decide +kernel
theorem dX8_append_77 : decode cX8_append 77 = .ok (.aload_n 0, 1) := by decide +kernel
theorem dX8_append_78 : decode cX8_append 78 = .ok (.getfield 24, 3) := by decide +kernel
theorem dX8_append_81 : decode cX8_append 81 = .ok (.getfield 69, 3) := by decide +kernel
theorem dX8_append_84 : decode cX8_append 84 = .ok (.iload_n 3, 1) := by decide +kernel
theorem dX8_append_85 : decode cX8_append 85 = .ok (.caload, 1) := by decide +kernel
theorem dX8_append_86 : decode cX8_append 86 = .ok (.invokevirtual 66, 3) := by decide +kernel
theorem dX8_append_89 : decode cX8_append 89 = .ok (.pop, 1) := by decide +kernel
theorem dX8_append_90 : decode cX8_append 90 = .ok (.iinc 3 1, 3) := by decide +kernel
theorem dX8_append_93 : decode cX8_append 93 = .ok (.goto (-28), 3) := by decide +kernel
theorem dX8_append_96 : decode cX8_append 96 = .ok (.iload_n 2, 1) := by decide +kernel
theorem dX8_append_97 : decode cX8_append 97 = .ok (.ifCond .ne 21, 3) := by decide +kernel
theorem dX8_append_100 : decode cX8_append 100 = .ok (.aload_n 0, 1) := by decide +kernel
theorem dX8_append_101 : decode cX8_append 101 = .ok (.getfield 24, 3) := by decide +kernel
theorem dX8_append_104 : decode cX8_append 104 = .ok (.getfield 49, 3) := by decide +kernel
theorem dX8_append_107 : decode cX8_append 107 = .ok (.iconst 1, 1) := by decide +kernel
theorem dX8_append_108 : decode cX8_append 108 = .ok (.if_icmp .ne 10, 3) := by decide +kernel
theorem dX8_append_111 : decode cX8_append 111 = .ok (.aload_n 1, 1) := by decide +kernel
theorem dX8_append_112 : decode cX8_append 112 = .ok (.bipush 10, 2) := by decide +kernel
theorem dX8_append_114 : decode cX8_append 114 = .ok (.invokevirtual 66, 3) := by decide +kernel
theorem dX8_append_117 : decode cX8_append 117 = .ok (.pop, 1) := by decide +kernel
theorem dX8_append_118 : decode cX8_append 118 = .ok (.aload_n 1, 1) := by decide +kernel
theorem dX8_append_119 : decode cX8_append 119 = .ok (.iload_n 2, 1) := by decide +kernel
theorem dX8_append_120 : decode cX8_append 120 = .ok (.ifCond .eq 7, 3) := by decide +kernel
theorem dX8_append_123 : decode cX8_append 123 = .ok (.iconst 1, 1) := by decide +kernel
theorem dX8_append_124 : decode cX8_append 124 = .ok (.goto 4, 3) := by decide +kernel
theorem dX8_append_127 : decode cX8_append 127 = .ok (.iconst 2, 1) := by decide +kernel
theorem dX8_append_128 : decode cX8_append 128 = .ok (.putfield 49, 3) := by decide +kernel
theorem dX8_append_131 : decode cX8_append 131 = .ok (.return_, 1) := by decide +kernel
theorem dX10_clear_0 : decode cX10_clear 0 = .ok (.aload_n 0, 1) := by decide +kernel
theorem dX10_clear_1 : decode cX10_clear 1 = .ok (.iconst 0, 1) := by decide +kernel
theorem dX10_clear_2 : decode cX10_clear 2 = .ok (.putfield 9, 3) := by decide +kernel
theorem dX10_clear_5 : decode cX10_clear 5 = .ok (.aload_n 0, 1) := by decide +kernel
theorem dX10_clear_6 : decode cX10_clear 6 = .ok (.iconst 0, 1) := by decide +kernel
theorem dX10_clear_7 : decode cX10_clear 7 = .ok (.putfield 15, 3) := by decide +kernel
theorem dX10_clear_10 : decode cX10_clear 10 = .ok (.return_, 1) := by decide +kernel
theorem dX10_add_0 : decode cX10_add 0 = .ok (.aload_n 0, 1) := by decide +kernel
theorem dX10_add_1 : decode cX10_add 1 = .ok (.getfield 9, 3) := by decide +kernel
theorem dX10_add_4 : decode cX10_add 4 = .ok (.sipush 16384, 3) := by decide +kernel
theorem dX10_add_7 : decode cX10_add 7 = .ok (.if_icmp .lt 5, 3) := by decide +kernel
theorem dX10_add_10 : decode cX10_add 10 = .ok (.iconst 0, 1) := by decide +kernel
theorem dX10_add_11 : decode cX10_add 11 = .ok (.ireturn, 1) := by decide +kernel
theorem dX10_add_12 : decode cX10_add 12 = .ok (.aload_n 0, 1) := by decide +kernel
theorem dX10_add_13 : decode cX10_add 13 = .ok (.getfield 9, 3) := by decide +kernel
theorem dX10_add_16 : decode cX10_add 16 = .ok (.aload_n 0, 1) := by decide +kernel
theorem dX10_add_17 : decode cX10_add 17 = .ok (.getfield 18, 3) := by decide +kernel
theorem dX10_add_20 : decode cX10_add 20 = .ok (.arraylength, 1) := by decide +kernel
theorem dX10_add_21 : decode cX10_add 21 = .ok (.if_icmp .lt 34, 3) := by decide +kernel
theorem dX10_add_24 : decode cX10_add 24 = .ok (.iconst 2, 1) := by decide +kernel
theorem dX10_add_25 : decode cX10_add 25 = .ok (.aload_n 0, 1) := by decide +kernel
theorem dX10_add_26 : decode cX10_add 26 = .ok (.getfield 9, 3) := by decide +kernel
theorem dX10_add_29 : decode cX10_add 29 = .ok (.imul, 1) := by decide +kernel
theorem dX10_add_30 : decode cX10_add 30 = .ok (.bipush 16, 2) := by decide +kernel
theorem dX10_add_32 : decode cX10_add 32 = .ok (.iadd, 1) := by decide +kernel
theorem dX10_add_33 : decode cX10_add 33 = .ok (.newarray .char, 2) := by decide +kernel
theorem dX10_add_35 : decode cX10_add 35 = .ok (.astore_n 2, 1) := by decide +kernel
theorem dX10_add_36 : decode cX10_add 36 = .ok (.aload_n 0, 1) := by decide +kernel
theorem dX10_add_37 : decode cX10_add 37 = .ok (.getfield 18, 3) := by decide +kernel
theorem dX10_add_40 : decode cX10_add 40 = .ok (.iconst 0, 1) := by decide +kernel
theorem dX10_add_41 : decode cX10_add 41 = .ok (.aload_n 2, 1) := by decide +kernel
theorem dX10_add_42 : decode cX10_add 42 = .ok (.iconst 0, 1) := by decide +kernel
theorem dX10_add_43 : decode cX10_add 43 = .ok (.aload_n 0, 1) := by decide +kernel
theorem dX10_add_44 : decode cX10_add 44 = .ok (.getfield 9, 3) := by decide +kernel
theorem dX10_add_47 : decode cX10_add 47 = .ok (.invokestatic 22, 3) := by decide +kernel
theorem dX10_add_50 : decode cX10_add 50 = .ok (.aload_n 0, 1) := by decide +kernel
theorem dX10_add_51 : decode cX10_add 51 = .ok (.aload_n 2, 1) := by decide +kernel
theorem dX10_add_52 : decode cX10_add 52 = .ok (.putfield 18, 3) := by decide +kernel
theorem dX10_add_55 : decode cX10_add 55 = .ok (.aload_n 0, 1) := by decide +kernel
theorem dX10_add_56 : decode cX10_add 56 = .ok (.getfield 18, 3) := by decide +kernel
theorem dX10_add_59 : decode cX10_add 59 = .ok (.aload_n 0, 1) := by decide +kernel
theorem dX10_add_60 : decode cX10_add 60 = .ok (.getfield 9, 3) := by decide +kernel
theorem dX10_add_63 : decode cX10_add 63 = .ok (.iload_n 1, 1) := by decide +kernel
theorem dX10_add_64 : decode cX10_add 64 = .ok (.i2c, 1) := by decide +kernel
theorem dX10_add_65 : decode cX10_add 65 = .ok (.castore, 1) := by decide +kernel
theorem dX10_add_66 : decode cX10_add 66 = .ok (.aload_n 0, 1) := by decide +kernel
theorem dX10_add_67 : decode cX10_add 67 = .ok (.dup, 1) := by decide +kernel
theorem dX10_add_68 : decode cX10_add 68 = .ok (.getfield 9, 3) := by decide +kernel
theorem dX10_add_71 : decode cX10_add 71 = .ok (.iconst 1, 1) := by decide +kernel
theorem dX10_add_72 : decode cX10_add 72 = .ok (.iadd, 1) := by decide +kernel
theorem dX10_add_73 : decode cX10_add 73 = .ok (.putfield 9, 3) := by decide +kernel
theorem dX10_add_76 : decode cX10_add 76 = .ok (.iconst 1, 1) := by decide +kernel
theorem dX10_add_77 : decode cX10_add 77 = .ok (.ireturn, 1) := by decide +kernel
theorem dX10_copyOf_0 : decode cX10_copyOf 0 = .ok (.iconst 0, 1) := by decide +kernel
theorem dX10_copyOf_1 : decode cX10_copyOf 1 = .ok (.aload_n 1, 1) := by decide +kernel
theorem dX10_copyOf_2 : decode cX10_copyOf 2 = .ok (.getfield 9, 3) := by decide +kernel
theorem dX10_copyOf_5 : decode cX10_copyOf 5 = .ok (.iload_n 2, 1) := by decide +kernel
theorem dX10_copyOf_6 : decode cX10_copyOf 6 = .ok (.invokestatic 28, 3) := by decide +kernel
theorem dX10_copyOf_9 : decode cX10_copyOf 9 = .ok (.invokestatic 34, 3) := by decide +kernel
theorem dX10_copyOf_12 : decode cX10_copyOf 12 = .ok (.istore_n 3, 1) := by decide +kernel
theorem dX10_copyOf_13 : decode cX10_copyOf 13 = .ok (.aload_n 0, 1) := by decide +kernel
theorem dX10_copyOf_14 : decode cX10_copyOf 14 = .ok (.getfield 18, 3) := by decide +kernel
theorem dX10_copyOf_17 : decode cX10_copyOf 17 = .ok (.arraylength, 1) := by decide +kernel
theorem dX10_copyOf_18 : decode cX10_copyOf 18 = .ok (.iload_n 3, 1) := by decide +kernel
theorem dX10_copyOf_19 : decode cX10_copyOf 19 = .ok (.if_icmp .ge 10, 3) := by decide +kernel
theorem dX10_copyOf_22 : decode cX10_copyOf 22 = .ok (.aload_n 0, 1) := by decide +kernel
theorem dX10_copyOf_23 : decode cX10_copyOf 23 = .ok (.iload_n 3, 1) := by decide +kernel
theorem dX10_copyOf_24 : decode cX10_copyOf 24 = .ok (.newarray .char, 2) := by decide +kernel
theorem dX10_copyOf_26 : decode cX10_copyOf 26 = .ok (.putfield 18, 3) := by decide +kernel
theorem dX10_copyOf_29 : decode cX10_copyOf 29 = .ok (.aload_n 1, 1) := by decide +kernel
theorem dX10_copyOf_30 : decode cX10_copyOf 30 = .ok (.getfield 18, 3) := by decide +kernel
theorem dX10_copyOf_33 : decode cX10_copyOf 33 = .ok (.iconst 0, 1) := by decide +kernel
theorem dX10_copyOf_34 : decode cX10_copyOf 34 = .ok (.aload_n 0, 1) := by decide +kernel
theorem dX10_copyOf_35 : decode cX10_copyOf 35 = .ok (.getfield 18, 3) := by decide +kernel
theorem dX10_copyOf_38 : decode cX10_copyOf 38 = .ok (.iconst 0, 1) := by decide +kernel
theorem dX10_copyOf_39 : decode cX10_copyOf 39 = .ok (.iload_n 3, 1) := by decide +kernel
theorem dX10_copyOf_40 : decode cX10_copyOf 40 = .ok (.invokestatic 22, 3) := by decide +kernel
theorem dX10_copyOf_43 : decode cX10_copyOf 43 = .ok (.aload_n 0, 1) := by decide +kernel
theorem dX10_copyOf_44 : decode cX10_copyOf 44 = .ok (.iload_n 3, 1) := by decide +kernel
theorem dX10_copyOf_45 : decode cX10_copyOf 45 = .ok (.putfield 9, 3) := by decide +kernel
theorem dX10_copyOf_48 : decode cX10_copyOf 48 = .ok (.aload_n 0, 1) := by decide +kernel
theorem dX10_copyOf_49 : decode cX10_copyOf 49 = .ok (.aload_n 1, 1) := by decide +kernel
theorem dX10_copyOf_50 : decode cX10_copyOf 50 = .ok (.getfield 15, 3) := by decide +kernel
theorem dX10_copyOf_53 : decode cX10_copyOf 53 = .ok (.putfield 15, 3) := by decide +kernel
theorem dX10_copyOf_56 : decode cX10_copyOf 56 = .ok (.return_, 1) := by decide +kernel
theorem dX10_partOf_0 : decode cX10_partOf 0 = .ok (.iconst 0, 1) := by decide +kernel
theorem dX10_partOf_1 : decode cX10_partOf 1 = .ok (.iload_n 2, 1) := by decide +kernel
theorem dX10_partOf_2 : decode cX10_partOf 2 = .ok (.invokestatic 34, 3) := by decide +kernel
theorem dX10_partOf_5 : decode cX10_partOf 5 = .ok (.istore 4, 2) := by decide +kernel
theorem dX10_partOf_7 : decode cX10_partOf 7 = .ok (.iconst 0, 1) := by decide +kernel
theorem dX10_partOf_8 : decode cX10_partOf 8 = .ok (.iload_n 3, 1) := by decide +kernel
theorem dX10_partOf_9 : decode cX10_partOf 9 = .ok (.aload_n 1, 1) := by decide +kernel
theorem dX10_partOf_10 : decode cX10_partOf 10 = .ok (.getfield 9, 3) := by decide +kernel
theorem dX10_partOf_13 : decode cX10_partOf 13 = .ok (.invokestatic 28, 3) := by decide +kernel
theorem dX10_partOf_16 : decode cX10_partOf 16 = .ok (.iload 4, 2) := by decide +kernel
theorem dX10_partOf_18 : decode cX10_partOf 18 = .ok (.isub, 1) := by decide +kernel
theorem dX10_partOf_19 : decode cX10_partOf 19 = .ok (.invokestatic 34, 3) := by decide +kernel
theorem dX10_partOf_22 : decode cX10_partOf 22 = .ok (.istore 5, 2) := by decide +kernel
theorem dX10_partOf_24 : decode cX10_partOf 24 = .ok (.aload_n 0, 1) := by decide +kernel
theorem dX10_partOf_25 : decode cX10_partOf 25 = .ok (.getfield 18, 3) := by decide +kernel
theorem dX10_partOf_28 : decode cX10_partOf 28 = .ok (.arraylength, 1) := by decide +kernel
theorem dX10_partOf_29 : decode cX10_partOf 29 = .ok (.iload 5, 2) := by decide +kernel
theorem dX10_partOf_31 : decode cX10_partOf 31 = .ok (.if_icmp .ge 11, 3) := by decide +kernel
theorem dX10_partOf_34 : decode cX10_partOf 34 = .ok (.aload_n 0, 1) := by decide +kernel
theorem dX10_partOf_35 : decode cX10_partOf 35 = .ok (.iload 5, 2) := by decide +kernel
theorem dX10_partOf_37 : decode cX10_partOf 37 = .ok (.newarray .char, 2) := by decide +kernel
theorem dX10_partOf_39 : decode cX10_partOf 39 = .ok (.putfield 18, 3) := by decide +kernel
theorem dX10_partOf_42 : decode cX10_partOf 42 = .ok (.aload_n 1, 1) := by decide +kernel
theorem dX10_partOf_43 : decode cX10_partOf 43 = .ok (.getfield 18, 3) := by decide +kernel
theorem dX10_partOf_46 : decode cX10_partOf 46 = .ok (.iload 4, 2) := by decide +kernel
theorem dX10_partOf_48 : decode cX10_partOf 48 = .ok (.aload_n 1, 1) := by decide +kernel
theorem dX10_partOf_49 : decode cX10_partOf 49 = .ok (.getfield 9, 3) := by decide +kernel
theorem dX10_partOf_52 : decode cX10_partOf 52 = .ok (.invokestatic 28, 3) := by decide +kernel
theorem dX10_partOf_55 : decode cX10_partOf 55 = .ok (.aload_n 0, 1) := by decide +kernel
theorem dX10_partOf_56 : decode cX10_partOf 56 = .ok (.getfield 18, 3) := by decide +kernel
theorem dX10_partOf_59 : decode cX10_partOf 59 = .ok (.iconst 0, 1) := by decide +kernel
theorem dX10_partOf_60 : decode cX10_partOf 60 = .ok (.iload 5, 2) := by decide +kernel
theorem dX10_partOf_62 : decode cX10_partOf 62 = .ok (.invokestatic 22, 3) := by decide +kernel
theorem dX10_partOf_65 : decode cX10_partOf 65 = .ok (.aload_n 0, 1) := by decide +kernel
theorem dX10_partOf_66 : decode cX10_partOf 66 = .ok (.iload 5, 2) := by decide +kernel
theorem dX10_partOf_68 : decode cX10_partOf 68 = .ok (.putfield 9, 3) := by decide +kernel
theorem dX10_partOf_71 : decode cX10_partOf 71 = .ok (.aload_n 0, 1) := by decide +kernel
theorem dX10_partOf_72 : decode cX10_partOf 72 = .ok (.iconst 0, 1) := by decide +kernel
theorem dX10_partOf_73 : decode cX10_partOf 73 = .ok (.putfield 15, 3) := by decide +kernel
theorem dX10_partOf_76 : decode cX10_partOf 76 = .ok (.return_, 1) := by decide +kernel
theorem dX11_sizeOf_0 : decode cX11_sizeOf 0 = .ok (.iload_n 1, 1) := by decide +kernel
theorem dX11_sizeOf_1 : decode cX11_sizeOf 1 = .ok (.ifCond .lt 11, 3) := by decide +kernel
theorem dX11_sizeOf_4 : decode cX11_sizeOf 4 = .ok (.iload_n 1, 1) := by decide +kernel
theorem dX11_sizeOf_5 : decode cX11_sizeOf 5 = .ok (.aload_n 0, 1) := by decide +kernel
theorem dX11_sizeOf_6 : decode cX11_sizeOf 6 = .ok (.getfield 26, 3) := by decide +kernel
theorem dX11_sizeOf_9 : decode cX11_sizeOf 9 = .ok (.if_icmp .lt 7, 3) := by decide +kernel
theorem dX11_sizeOf_12 : decode cX11_sizeOf 12 = .ok (.iconst 0, 1) := by decide +kernel
theorem dX11_sizeOf_13 : decode cX11_sizeOf 13 = .ok (.goto 9, 3) := by decide +kernel
theorem dX11_sizeOf_16 : decode cX11_sizeOf 16 = .ok (.aload_n 0, 1) := by decide +kernel
theorem dX11_sizeOf_17 : decode cX11_sizeOf 17 = .ok (.getfield 15, 3) := by decide +kernel
theorem dX11_sizeOf_20 : decode cX11_sizeOf 20 = .ok (.iload_n 1, 1) := by decide +kernel
theorem dX11_sizeOf_21 : decode cX11_sizeOf 21 = .ok (.iaload, 1) := by decide +kernel
theorem dX11_sizeOf_22 : decode cX11_sizeOf 22 = .ok (.ireturn, 1) := by decide +kernel
theorem dX11_firstSign_0 : decode cX11_firstSign 0 = .ok (.iload_n 1, 1) := by decide +kernel
theorem dX11_firstSign_1 : decode cX11_firstSign 1 = .ok (.ifCond .lt 11, 3) := by decide +kernel
theorem dX11_firstSign_4 : decode cX11_firstSign 4 = .ok (.iload_n 1, 1) := by decide +kernel
theorem dX11_firstSign_5 : decode cX11_firstSign 5 = .ok (.aload_n 0, 1) := by decide +kernel
theorem dX11_firstSign_6 : decode cX11_firstSign 6 = .ok (.getfield 26, 3) := by decide +kernel
theorem dX11_firstSign_9 : decode cX11_firstSign 9 = .ok (.if_icmp .lt 5, 3) := by decide +kernel
theorem dX11_firstSign_12 : decode cX11_firstSign 12 = .ok (.iconst 0, 1) := by decide +kernel
theorem dX11_firstSign_13 : decode cX11_firstSign 13 = .ok (.ireturn, 1) := by decide +kernel
theorem dX11_firstSign_14 : decode cX11_firstSign 14 = .ok (.iconst 0, 1) := by decide +kernel
theorem dX11_firstSign_15 : decode cX11_firstSign 15 = .ok (.istore_n 2, 1) := by decide +kernel
theorem dX11_firstSign_16 : decode cX11_firstSign 16 = .ok (.iload_n 2, 1) := by decide +kernel
theorem dX11_firstSign_17 : decode cX11_firstSign 17 = .ok (.aload_n 0, 1) := by decide +kernel
theorem dX11_firstSign_18 : decode cX11_firstSign 18 = .ok (.getfield 15, 3) := by decide +kernel
theorem dX11_firstSign_21 : decode cX11_firstSign 21 = .ok (.iload_n 1, 1) := by decide +kernel
theorem dX11_firstSign_22 : decode cX11_firstSign 22 = .ok (.iaload, 1) := by decide +kernel
theorem dX11_firstSign_23 : decode cX11_firstSign 23 = .ok (.iconst 1, 1) := by decide +kernel
theorem dX11_firstSign_24 : decode cX11_firstSign 24 = .ok (.isub, 1) := by decide +kernel
theorem dX11_firstSign_25 : decode cX11_firstSign 25 = .ok (.if_icmp .ge 25, 3) := by decide +kernel
theorem dX11_firstSign_28 : decode cX11_firstSign 28 = .ok (.aload_n 0, 1) := by decide +kernel
theorem dX11_firstSign_29 : decode cX11_firstSign 29 = .ok (.getfield 9, 3) := by decide +kernel
theorem dX11_firstSign_32 : decode cX11_firstSign 32 = .ok (.iload_n 1, 1) := by decide +kernel
theorem dX11_firstSign_33 : decode cX11_firstSign 33 = .ok (.bipush 60, 2) := by decide +kernel
theorem dX11_firstSign_35 : decode cX11_firstSign 35 = .ok (.imul, 1) := by decide +kernel
theorem dX11_firstSign_36 : decode cX11_firstSign 36 = .ok (.iload_n 2, 1) := by decide +kernel
theorem dX11_firstSign_37 : decode cX11_firstSign 37 = .ok (.iadd, 1) := by decide +kernel
theorem dX11_firstSign_38 : decode cX11_firstSign 38 = .ok (.caload, 1) := by decide +kernel
theorem dX11_firstSign_39 : decode cX11_firstSign 39 = .ok (.bipush 32, 2) := by decide +kernel
theorem dX11_firstSign_41 : decode cX11_firstSign 41 = .ok (.if_icmp .ne 9, 3) := by decide +kernel
theorem dX11_firstSign_44 : decode cX11_firstSign 44 = .ok (.iinc 2 1, 3) := by decide +kernel
theorem dX11_firstSign_47 : decode cX11_firstSign 47 = .ok (.goto (-31), 3) := by decide +kernel
theorem dX11_firstSign_50 : decode cX11_firstSign 50 = .ok (.iload_n 2, 1) := by decide +kernel
theorem dX11_firstSign_51 : decode cX11_firstSign 51 = .ok (.ireturn, 1) := by decide +kernel
theorem dX11_isLike_0 : decode cX11_isLike 0 = .ok (.aload_n 0, 1) := by decide +kernel
theorem dX11_isLike_1 : decode cX11_isLike 1 = .ok (.aload_n 1, 1) := by decide +kernel
theorem dX11_isLike_2 : decode cX11_isLike 2 = .ok (.invokevirtual 37, 3) := by decide +kernel
theorem dX11_isLike_5 : decode cX11_isLike 5 = .ok (.iconst (-1), 1) := by decide +kernel
theorem dX11_isLike_6 : decode cX11_isLike 6 = .ok (.if_icmp .ne 7, 3) := by decide +kernel
theorem dX11_isLike_9 : decode cX11_isLike 9 = .ok (.iconst 1, 1) := by decide +kernel
theorem dX11_isLike_10 : decode cX11_isLike 10 = .ok (.goto 4, 3) := by decide +kernel
theorem dX11_isLike_13 : decode cX11_isLike 13 = .ok (.iconst 0, 1) := by decide +kernel
theorem dX11_isLike_14 : decode cX11_isLike 14 = .ok (.ireturn, 1) := by decide +kernel
theorem dX11_firstDifference_0 : decode cX11_firstDifference 0 = .ok (.iconst 0, 1) := by decide +kernel
theorem dX11_firstDifference_1 : decode cX11_firstDifference 1 = .ok (.istore_n 2, 1) := by decide +kernel
theorem dX11_firstDifference_2 : decode cX11_firstDifference 2 = .ok (.iload_n 2, 1) := by decide +kernel
theorem dX11_firstDifference_3 : decode cX11_firstDifference 3 = .ok (.aload_n 0, 1) := by decide +kernel
theorem dX11_firstDifference_4 : decode cX11_firstDifference 4 = .ok (.getfield 26, 3) := by decide +kernel
theorem dX11_firstDifference_7 : decode cX11_firstDifference 7 = .ok (.if_icmp .ge 77, 3) := by decide +kernel
theorem dX11_firstDifference_10 : decode cX11_firstDifference 10 = .ok (.iload_n 2, 1) := by decide +kernel
theorem dX11_firstDifference_11 : decode cX11_firstDifference 11 = .ok (.aload_n 1, 1) := by decide +kernel
theorem dX11_firstDifference_12 : decode cX11_firstDifference 12 = .ok (.getfield 26, 3) := by decide +kernel
theorem dX11_firstDifference_15 : decode cX11_firstDifference 15 = .ok (.if_icmp .ge 69, 3) := by decide +kernel
theorem dX11_firstDifference_18 : decode cX11_firstDifference 18 = .ok (.aload_n 0, 1) := by decide +kernel
theorem dX11_firstDifference_19 : decode cX11_firstDifference 19 = .ok (.getfield 15, 3) := by decide +kernel
theorem dX11_firstDifference_22 : decode cX11_firstDifference 22 = .ok (.iload_n 2, 1) := by decide +kernel
theorem dX11_firstDifference_23 : decode cX11_firstDifference 23 = .ok (.iaload, 1) := by decide +kernel
theorem dX11_firstDifference_24 : decode cX11_firstDifference 24 = .ok (.aload_n 1, 1) := by decide +kernel
theorem dX11_firstDifference_25 : decode cX11_firstDifference 25 = .ok (.getfield 15, 3) := by decide +kernel
theorem dX11_firstDifference_28 : decode cX11_firstDifference 28 = .ok (.iload_n 2, 1) := by decide +kernel
theorem dX11_firstDifference_29 : decode cX11_firstDifference 29 = .ok (.iaload, 1) := by decide +kernel
theorem dX11_firstDifference_30 : decode cX11_firstDifference 30 = .ok (.if_icmp .eq 5, 3) := by decide +kernel
theorem dX11_firstDifference_33 : decode cX11_firstDifference 33 = .ok (.iload_n 2, 1) := by decide +kernel
theorem dX11_firstDifference_34 : decode cX11_firstDifference 34 = .ok (.ireturn, 1) := by decide +kernel
theorem dX11_firstDifference_35 : decode cX11_firstDifference 35 = .ok (.iload_n 2, 1) := by decide +kernel
theorem dX11_firstDifference_36 : decode cX11_firstDifference 36 = .ok (.bipush 60, 2) := by decide +kernel
theorem dX11_firstDifference_38 : decode cX11_firstDifference 38 = .ok (.imul, 1) := by decide +kernel
theorem dX11_firstDifference_39 : decode cX11_firstDifference 39 = .ok (.istore_n 3, 1) := by decide +kernel
theorem dX11_firstDifference_40 : decode cX11_firstDifference 40 = .ok (.iload_n 3, 1) := by decide +kernel
theorem dX11_firstDifference_41 : decode cX11_firstDifference 41 = .ok (.iload_n 2, 1) := by decide +kernel
theorem dX11_firstDifference_42 : decode cX11_firstDifference 42 = .ok (.bipush 60, 2) := by decide +kernel
theorem dX11_firstDifference_44 : decode cX11_firstDifference 44 = .ok (.imul, 1) := by decide +kernel
theorem dX11_firstDifference_45 : decode cX11_firstDifference 45 = .ok (.aload_n 0, 1) := by decide +kernel
theorem dX11_firstDifference_46 : decode cX11_firstDifference 46 = .ok (.getfield 15, 3) := by decide +kernel
theorem dX11_firstDifference_49 : decode cX11_firstDifference 49 = .ok (.iload_n 2, 1) := by decide +kernel
theorem dX11_firstDifference_50 : decode cX11_firstDifference 50 = .ok (.iaload, 1) := by decide +kernel
theorem dX11_firstDifference_51 : decode cX11_firstDifference 51 = .ok (.iadd, 1) := by decide +kernel
theorem dX11_firstDifference_52 : decode cX11_firstDifference 52 = .ok (.if_icmp .ge 26, 3) := by decide +kernel
theorem dX11_firstDifference_55 : decode cX11_firstDifference 55 = .ok (.aload_n 0, 1) := by decide +kernel
theorem dX11_firstDifference_56 : decode cX11_firstDifference 56 = .ok (.getfield 9, 3) := by decide +kernel
theorem dX11_firstDifference_59 : decode cX11_firstDifference 59 = .ok (.iload_n 3, 1) := by decide +kernel
theorem dX11_firstDifference_60 : decode cX11_firstDifference 60 = .ok (.caload, 1) := by decide +kernel
theorem dX11_firstDifference_61 : decode cX11_firstDifference 61 = .ok (.aload_n 1, 1) := by decide +kernel
theorem dX11_firstDifference_62 : decode cX11_firstDifference 62 = .ok (.getfield 9, 3) := by decide +kernel
theorem dX11_firstDifference_65 : decode cX11_firstDifference 65 = .ok (.iload_n 3, 1) := by decide +kernel
theorem dX11_firstDifference_66 : decode cX11_firstDifference 66 = .ok (.caload, 1) := by decide +kernel
theorem dX11_firstDifference_67 : decode cX11_firstDifference 67 = .ok (.if_icmp .eq 5, 3) := by decide +kernel
theorem dX11_firstDifference_70 : decode cX11_firstDifference 70 = .ok (.iload_n 2, 1) := by decide +kernel
theorem dX11_firstDifference_71 : decode cX11_firstDifference 71 = .ok (.ireturn, 1) := by decide +kernel
theorem dX11_firstDifference_72 : decode cX11_firstDifference 72 = .ok (.iinc 3 1, 3) := by decide +kernel
theorem dX11_firstDifference_75 : decode cX11_firstDifference 75 = .ok (.goto (-35), 3) := by decide +kernel
theorem dX11_firstDifference_78 : decode cX11_firstDifference 78 = .ok (.iinc 2 1, 3) := by decide +kernel
theorem dX11_firstDifference_81 : decode cX11_firstDifference 81 = .ok (.goto (-79), 3) := by decide +kernel
theorem dX11_firstDifference_84 : decode cX11_firstDifference 84 = .ok (.aload_n 0, 1) := by decide +kernel
theorem dX11_firstDifference_85 : decode cX11_firstDifference 85 = .ok (.getfield 26, 3) := by decide +kernel
theorem dX11_firstDifference_88 : decode cX11_firstDifference 88 = .ok (.aload_n 1, 1) := by decide +kernel
theorem dX11_firstDifference_89 : decode cX11_firstDifference 89 = .ok (.getfield 26, 3) := by decide +kernel
theorem dX11_firstDifference_92 : decode cX11_firstDifference 92 = .ok (.if_icmp .ne 7, 3) := by decide +kernel
theorem dX11_firstDifference_95 : decode cX11_firstDifference 95 = .ok (.iconst (-1), 1) := by decide +kernel
theorem dX11_firstDifference_96 : decode cX11_firstDifference 96 = .ok (.goto 14, 3) := by decide +kernel
theorem dX11_firstDifference_99 : decode cX11_firstDifference 99 = .ok (.aload_n 0, 1) := by decide +kernel
theorem dX11_firstDifference_100 : decode cX11_firstDifference 100 = .ok (.getfield 26, 3) := by decide +kernel
theorem dX11_firstDifference_103 : decode cX11_firstDifference 103 = .ok (.aload_n 1, 1) := by decide +kernel
theorem dX11_firstDifference_104 : decode cX11_firstDifference 104 = .ok (.getfield 26, 3) := by decide +kernel
theorem dX11_firstDifference_107 : decode cX11_firstDifference 107 = .ok (.invokestatic 41, 3) := by decide +kernel
theorem dX11_firstDifference_110 : decode cX11_firstDifference 110 = .ok (.ireturn, 1) := by decide +kernel
theorem dX11_copyOf_0 : decode cX11_copyOf 0 = .ok (.aload_n 1, 1) := by decide +kernel
theorem dX11_copyOf_1 : decode cX11_copyOf 1 = .ok (.getfield 9, 3) := by decide +kernel
theorem dX11_copyOf_4 : decode cX11_copyOf 4 = .ok (.iconst 0, 1) := by decide +kernel
theorem dX11_copyOf_5 : decode cX11_copyOf 5 = .ok (.aload_n 0, 1) := by decide +kernel
theorem dX11_copyOf_6 : decode cX11_copyOf 6 = .ok (.getfield 9, 3) := by decide +kernel
theorem dX11_copyOf_9 : decode cX11_copyOf 9 = .ok (.iconst 0, 1) := by decide +kernel
theorem dX11_copyOf_10 : decode cX11_copyOf 10 = .ok (.aload_n 0, 1) := by decide +kernel
theorem dX11_copyOf_11 : decode cX11_copyOf 11 = .ok (.getfield 9, 3) := by decide +kernel
theorem dX11_copyOf_14 : decode cX11_copyOf 14 = .ok (.arraylength, 1) := by decide +kernel
theorem dX11_copyOf_15 : decode cX11_copyOf 15 = .ok (.invokestatic 47, 3) := by decide +kernel
theorem dX11_copyOf_18 : decode cX11_copyOf 18 = .ok (.aload_n 1, 1) := by decide +kernel
theorem dX11_copyOf_19 : decode cX11_copyOf 19 = .ok (.getfield 15, 3) := by decide +kernel
theorem dX11_copyOf_22 : decode cX11_copyOf 22 = .ok (.iconst 0, 1) := by decide +kernel
theorem dX11_copyOf_23 : decode cX11_copyOf 23 = .ok (.aload_n 0, 1) := by decide +kernel
theorem dX11_copyOf_24 : decode cX11_copyOf 24 = .ok (.getfield 15, 3) := by decide +kernel
theorem dX11_copyOf_27 : decode cX11_copyOf 27 = .ok (.iconst 0, 1) := by decide +kernel
theorem dX11_copyOf_28 : decode cX11_copyOf 28 = .ok (.aload_n 0, 1) := by decide +kernel
theorem dX11_copyOf_29 : decode cX11_copyOf 29 = .ok (.getfield 15, 3) := by decide +kernel
theorem dX11_copyOf_32 : decode cX11_copyOf 32 = .ok (.arraylength, 1) := by decide +kernel
theorem dX11_copyOf_33 : decode cX11_copyOf 33 = .ok (.invokestatic 47, 3) := by decide +kernel
theorem dX11_copyOf_36 : decode cX11_copyOf 36 = .ok (.aload_n 0, 1) := by decide +kernel
theorem dX11_copyOf_37 : decode cX11_copyOf 37 = .ok (.aload_n 1, 1) := by decide +kernel
theorem dX11_copyOf_38 : decode cX11_copyOf 38 = .ok (.getfield 26, 3) := by decide +kernel
theorem dX11_copyOf_41 : decode cX11_copyOf 41 = .ok (.putfield 26, 3) := by decide +kernel
theorem dX11_copyOf_44 : decode cX11_copyOf 44 = .ok (.iconst 0, 1) := by decide +kernel
theorem dX11_copyOf_45 : decode cX11_copyOf 45 = .ok (.istore_n 2, 1) := by decide +kernel
theorem dX11_copyOf_46 : decode cX11_copyOf 46 = .ok (.iload_n 2, 1) := by decide +kernel
theorem dX11_copyOf_47 : decode cX11_copyOf 47 = .ok (.aload_n 0, 1) := by decide +kernel
theorem dX11_copyOf_48 : decode cX11_copyOf 48 = .ok (.getfield 26, 3) := by decide +kernel
theorem dX11_copyOf_51 : decode cX11_copyOf 51 = .ok (.if_icmp .ge 29, 3) := by decide +kernel
theorem dX11_copyOf_54 : decode cX11_copyOf 54 = .ok (.aload_n 0, 1) := by decide +kernel
theorem dX11_copyOf_55 : decode cX11_copyOf 55 = .ok (.dup, 1) := by decide +kernel
theorem dX11_copyOf_56 : decode cX11_copyOf 56 = .ok (.getfield 22, 3) := by decide +kernel
theorem dX11_copyOf_59 : decode cX11_copyOf 59 = .ok (.iconst 1, 1) := by decide +kernel
theorem dX11_copyOf_60 : decode cX11_copyOf 60 = .ok (.iadd, 1) := by decide +kernel
theorem dX11_copyOf_61 : decode cX11_copyOf 61 = .ok (.putfield 22, 3) := by decide +kernel
theorem dX11_copyOf_64 : decode cX11_copyOf 64 = .ok (.aload_n 0, 1) := by decide +kernel
theorem dX11_copyOf_65 : decode cX11_copyOf 65 = .ok (.getfield 19, 3) := by decide +kernel
theorem dX11_copyOf_68 : decode cX11_copyOf 68 = .ok (.iload_n 2, 1) := by decide +kernel
theorem dX11_copyOf_69 : decode cX11_copyOf 69 = .ok (.aload_n 0, 1) := by decide +kernel
theorem dX11_copyOf_70 : decode cX11_copyOf 70 = .ok (.getfield 22, 3) := by decide +kernel
theorem dX11_copyOf_73 : decode cX11_copyOf 73 = .ok (.iastore, 1) := by decide +kernel
theorem dX11_copyOf_74 : decode cX11_copyOf 74 = .ok (.iinc 2 1, 3) := by decide +kernel
theorem dX11_copyOf_77 : decode cX11_copyOf 77 = .ok (.goto (-31), 3) := by decide +kernel
theorem dX11_copyOf_80 : decode cX11_copyOf 80 = .ok (.return_, 1) := by decide +kernel
theorem dX11_renewLines_0 : decode cX11_renewLines 0 = .ok (.iload_n 1, 1) := by decide +kernel
theorem dX11_renewLines_1 : decode cX11_renewLines 1 = .ok (.ifCond .lt 18, 3) := by decide +kernel
theorem dX11_renewLines_4 : decode cX11_renewLines 4 = .ok (.iload_n 2, 1) := by decide +kernel
theorem dX11_renewLines_5 : decode cX11_renewLines 5 = .ok (.iconst 1, 1) := by decide +kernel
theorem dX11_renewLines_6 : decode cX11_renewLines 6 = .ok (.if_icmp .lt 13, 3) := by decide +kernel
theorem dX11_renewLines_9 : decode cX11_renewLines 9 = .ok (.iload_n 1, 1) := by decide +kernel
theorem dX11_renewLines_10 : decode cX11_renewLines 10 = .ok (.iload_n 2, 1) := by decide +kernel
theorem dX11_renewLines_11 : decode cX11_renewLines 11 = .ok (.iadd, 1) := by decide +kernel
theorem dX11_renewLines_12 : decode cX11_renewLines 12 = .ok (.aload_n 0, 1) := by decide +kernel
theorem dX11_renewLines_13 : decode cX11_renewLines 13 = .ok (.getfield 26, 3) := by decide +kernel
theorem dX11_renewLines_16 : decode cX11_renewLines 16 = .ok (.if_icmp .le 4, 3) := by decide +kernel
theorem dX11_renewLines_19 : decode cX11_renewLines 19 = .ok (.return_, 1) := by decide +kernel
theorem dX11_renewLines_20 : decode cX11_renewLines 20 = .ok (.iload_n 1, 1) := by decide +kernel
theorem dX11_renewLines_21 : decode cX11_renewLines 21 = .ok (.istore_n 3, 1) := by decide +kernel
theorem dX11_renewLines_22 : decode cX11_renewLines 22 = .ok (.iload_n 3, 1) := by decide +kernel
theorem dX11_renewLines_23 : decode cX11_renewLines 23 = .ok (.iload_n 1, 1) := by decide +kernel
theorem dX11_renewLines_24 : decode cX11_renewLines 24 = .ok (.iload_n 2, 1) := by decide +kernel
theorem dX11_renewLines_25 : decode cX11_renewLines 25 = .ok (.iadd, 1) := by decide +kernel
theorem dX11_renewLines_26 : decode cX11_renewLines 26 = .ok (.if_icmp .ge 29, 3) := by decide +kernel
theorem dX11_renewLines_29 : decode cX11_renewLines 29 = .ok (.aload_n 0, 1) := by decide +kernel
theorem dX11_renewLines_30 : decode cX11_renewLines 30 = .ok (.dup, 1) := by decide +kernel
theorem dX11_renewLines_31 : decode cX11_renewLines 31 = .ok (.getfield 22, 3) := by decide +kernel
theorem dX11_renewLines_34 : decode cX11_renewLines 34 = .ok (.iconst 1, 1) := by decide +kernel
theorem dX11_renewLines_35 : decode cX11_renewLines 35 = .ok (.iadd, 1) := by decide +kernel
theorem dX11_renewLines_36 : decode cX11_renewLines 36 = .ok (.putfield 22, 3) := by decide +kernel
theorem dX11_renewLines_39 : decode cX11_renewLines 39 = .ok (.aload_n 0, 1) := by decide +kernel
theorem dX11_renewLines_40 : decode cX11_renewLines 40 = .ok (.getfield 19, 3) := by decide +kernel
theorem dX11_renewLines_43 : decode cX11_renewLines 43 = .ok (.iload_n 3, 1) := by decide +kernel
theorem dX11_renewLines_44 : decode cX11_renewLines 44 = .ok (.aload_n 0, 1) := by decide +kernel
theorem dX11_renewLines_45 : decode cX11_renewLines 45 = .ok (.getfield 22, 3) := by decide +kernel
theorem dX11_renewLines_48 : decode cX11_renewLines 48 = .ok (.iastore, 1) := by decide +kernel
theorem dX11_renewLines_49 : decode cX11_renewLines 49 = .ok (.iinc 3 1, 3) := by decide +kernel
theorem dX11_renewLines_52 : decode cX11_renewLines 52 = .ok (.goto (-30), 3) := by decide +kernel
theorem dX11_renewLines_55 : decode cX11_renewLines 55 = .ok (.aload_n 0, 1) := by decide +kernel
theorem dX11_renewLines_56 : decode cX11_renewLines 56 = .ok (.getfield 29, 3) := by decide +kernel
theorem dX11_renewLines_59 : decode cX11_renewLines 59 = .ok (.ifnull 25, 3) := by decide +kernel
theorem dX11_renewLines_62 : decode cX11_renewLines 62 = .ok (.aload_n 0, 1) := by decide +kernel
theorem dX11_renewLines_63 : decode cX11_renewLines 63 = .ok (.getfield 29, 3) := by decide +kernel
theorem dX11_renewLines_66 : decode cX11_renewLines 66 = .ok (.iload_n 1, 1) := by decide +kernel
theorem dX11_renewLines_67 : decode cX11_renewLines 67 = .ok (.iload_n 2, 1) := by decide +kernel
theorem dX11_renewLines_68 : decode cX11_renewLines 68 = .ok (.aload_n 0, 1) := by decide +kernel
theorem dX11_renewLines_69 : decode cX11_renewLines 69 = .ok (.getfield 26, 3) := by decide +kernel
theorem dX11_renewLines_72 : decode cX11_renewLines 72 = .ok (.invokevirtual 67, 3) := by decide +kernel
theorem dX11_renewLines_75 : decode cX11_renewLines 75 = .ok (.aload_n 0, 1) := by decide +kernel
theorem dX11_renewLines_76 : decode cX11_renewLines 76 = .ok (.getfield 29, 3) := by decide +kernel
theorem dX11_renewLines_79 : decode cX11_renewLines 79 = .ok (.iload_n 1, 1) := by decide +kernel
theorem dX11_renewLines_80 : decode cX11_renewLines 80 = .ok (.iload_n 2, 1) := by decide +kernel
theorem dX11_renewLines_81 : decode cX11_renewLines 81 = .ok (.invokevirtual 61, 3) := by decide +kernel
theorem dX11_renewLines_84 : decode cX11_renewLines 84 = .ok (.return_, 1) := by decide +kernel
theorem dX11_copyLine_0 : decode cX11_copyLine 0 = .ok (.iload_n 1, 1) := by decide +kernel
theorem dX11_copyLine_1 : decode cX11_copyLine 1 = .ok (.ifCond .lt 56, 3) := by decide +kernel
theorem dX11_copyLine_4 : decode cX11_copyLine 4 = .ok (.iload_n 1, 1) := by decide +kernel
theorem dX11_copyLine_5 : decode cX11_copyLine 5 = .ok (.aload_n 0, 1) := by decide +kernel
theorem dX11_copyLine_6 : decode cX11_copyLine 6 = .ok (.getfield 26, 3) := by decide +kernel
theorem dX11_copyLine_9 : decode cX11_copyLine 9 = .ok (.if_icmp .ge 48, 3) := by decide +kernel
theorem dX11_copyLine_12 : decode cX11_copyLine 12 = .ok (.iload_n 3, 1) := by decide +kernel
theorem dX11_copyLine_13 : decode cX11_copyLine 13 = .ok (.ifCond .lt 44, 3) := by decide +kernel
theorem dX11_copyLine_16 : decode cX11_copyLine 16 = .ok (.iload_n 3, 1) := by decide +kernel
theorem dX11_copyLine_17 : decode cX11_copyLine 17 = .ok (.aload_n 2, 1) := by decide +kernel
theorem dX11_copyLine_18 : decode cX11_copyLine 18 = .ok (.getfield 26, 3) := by decide +kernel
theorem dX11_copyLine_21 : decode cX11_copyLine 21 = .ok (.if_icmp .ge 36, 3) := by decide +kernel
theorem dX11_copyLine_24 : decode cX11_copyLine 24 = .ok (.aload_n 2, 1) := by decide +kernel
theorem dX11_copyLine_25 : decode cX11_copyLine 25 = .ok (.getfield 9, 3) := by decide +kernel
theorem dX11_copyLine_28 : decode cX11_copyLine 28 = .ok (.iload_n 3, 1) := by decide +kernel
theorem dX11_copyLine_29 : decode cX11_copyLine 29 = .ok (.bipush 60, 2) := by decide +kernel
theorem dX11_copyLine_31 : decode cX11_copyLine 31 = .ok (.imul, 1) := by decide +kernel
theorem dX11_copyLine_32 : decode cX11_copyLine 32 = .ok (.aload_n 0, 1) := by decide +kernel
theorem dX11_copyLine_33 : decode cX11_copyLine 33 = .ok (.getfield 9, 3) := by decide +kernel
theorem dX11_copyLine_36 : decode cX11_copyLine 36 = .ok (.iload_n 1, 1) := by decide +kernel
theorem dX11_copyLine_37 : decode cX11_copyLine 37 = .ok (.bipush 60, 2) := by decide +kernel
theorem dX11_copyLine_39 : decode cX11_copyLine 39 = .ok (.imul, 1) := by decide +kernel
theorem dX11_copyLine_40 : decode cX11_copyLine 40 = .ok (.bipush 60, 2) := by decide +kernel
theorem dX11_copyLine_42 : decode cX11_copyLine 42 = .ok (.invokestatic 47, 3) := by decide +kernel
theorem dX11_copyLine_45 : decode cX11_copyLine 45 = .ok (.aload_n 0, 1) := by decide +kernel
theorem dX11_copyLine_46 : decode cX11_copyLine 46 = .ok (.getfield 15, 3) := by decide +kernel
theorem dX11_copyLine_49 : decode cX11_copyLine 49 = .ok (.iload_n 1, 1) := by decide +kernel
theorem dX11_copyLine_50 : decode cX11_copyLine 50 = .ok (.aload_n 2, 1) := by decide +kernel
theorem dX11_copyLine_51 : decode cX11_copyLine 51 = .ok (.getfield 15, 3) := by decide +kernel
theorem dX11_copyLine_54 : decode cX11_copyLine 54 = .ok (.iload_n 3, 1) := by decide +kernel
theorem dX11_copyLine_55 : decode cX11_copyLine 55 = .ok (.iaload, 1) := by decide +kernel
theorem dX11_copyLine_56 : decode cX11_copyLine 56 = .ok (.iastore, 1) := by decide +kernel
theorem dX11_copyLine_57 : decode cX11_copyLine 57 = .ok (.return_, 1) := by decide +kernel
theorem dX11_compareLines_0 : decode cX11_compareLines 0 = .ok (.aload_n 0, 1) := by decide +kernel
theorem dX11_compareLines_1 : decode cX11_compareLines 1 = .ok (.iload_n 1, 1) := by decide +kernel
theorem dX11_compareLines_2 : decode cX11_compareLines 2 = .ok (.invokevirtual 33, 3) := by decide +kernel
theorem dX11_compareLines_5 : decode cX11_compareLines 5 = .ok (.aload_n 0, 1) := by decide +kernel
theorem dX11_compareLines_6 : decode cX11_compareLines 6 = .ok (.iload_n 2, 1) := by decide +kernel
theorem dX11_compareLines_7 : decode cX11_compareLines 7 = .ok (.invokevirtual 33, 3) := by decide +kernel
theorem dX11_compareLines_10 : decode cX11_compareLines 10 = .ok (.invokestatic 41, 3) := by decide +kernel
theorem dX11_compareLines_13 : decode cX11_compareLines 13 = .ok (.istore_n 3, 1) := by decide +kernel
theorem dX11_compareLines_14 : decode cX11_compareLines 14 = .ok (.iconst 0, 1) := by decide +kernel
theorem dX11_compareLines_15 : decode cX11_compareLines 15 = .ok (.istore 4, 2) := by decide +kernel
theorem dX11_compareLines_17 : decode cX11_compareLines 17 = .ok (.iload 4, 2) := by decide +kernel
theorem dX11_compareLines_19 : decode cX11_compareLines 19 = .ok (.iload_n 3, 1) := by decide +kernel
theorem dX11_compareLines_20 : decode cX11_compareLines 20 = .ok (.if_icmp .ge 44, 3) := by decide +kernel
theorem dX11_compareLines_23 : decode cX11_compareLines 23 = .ok (.aload_n 0, 1) := by decide +kernel
theorem dX11_compareLines_24 : decode cX11_compareLines 24 = .ok (.getfield 9, 3) := by decide +kernel
theorem dX11_compareLines_27 : decode cX11_compareLines 27 = .ok (.iload_n 1, 1) := by decide +kernel
theorem dX11_compareLines_28 : decode cX11_compareLines 28 = .ok (.bipush 60, 2) := by decide +kernel
theorem dX11_compareLines_30 : decode cX11_compareLines 30 = .ok (.imul, 1) := by decide +kernel
theorem dX11_compareLines_31 : decode cX11_compareLines 31 = .ok (.iload 4, 2) := by decide +kernel
theorem dX11_compareLines_33 : decode cX11_compareLines 33 = .ok (.iadd, 1) := by decide +kernel
theorem dX11_compareLines_34 : decode cX11_compareLines 34 = .ok (.caload, 1) := by decide +kernel
theorem dX11_compareLines_35 : decode cX11_compareLines 35 = .ok (.aload_n 0, 1) := by decide +kernel
theorem dX11_compareLines_36 : decode cX11_compareLines 36 = .ok (.getfield 9, 3) := by decide +kernel
theorem dX11_compareLines_39 : decode cX11_compareLines 39 = .ok (.iload_n 2, 1) := by decide +kernel
theorem dX11_compareLines_40 : decode cX11_compareLines 40 = .ok (.bipush 60, 2) := by decide +kernel
theorem dX11_compareLines_42 : decode cX11_compareLines 42 = .ok (.imul, 1) := by decide +kernel
theorem dX11_compareLines_43 : decode cX11_compareLines 43 = .ok (.iload 4, 2) := by decide +kernel
theorem dX11_compareLines_45 : decode cX11_compareLines 45 = .ok (.iadd, 1) := by decide +kernel
theorem dX11_compareLines_46 : decode cX11_compareLines 46 = .ok (.caload, 1) := by decide +kernel
theorem dX11_compareLines_47 : decode cX11_compareLines 47 = .ok (.isub, 1) := by decide +kernel
theorem dX11_compareLines_48 : decode cX11_compareLines 48 = .ok (.istore 5, 2) := by decide +kernel
theorem dX11_compareLines_50 : decode cX11_compareLines 50 = .ok (.iload 5, 2) := by decide +kernel
theorem dX11_compareLines_52 : decode cX11_compareLines 52 = .ok (.ifCond .eq 6, 3) := by decide +kernel
theorem dX11_compareLines_55 : decode cX11_compareLines 55 = .ok (.iload 5, 2) := by decide +kernel
theorem dX11_compareLines_57 : decode cX11_compareLines 57 = .ok (.ireturn, 1) := by decide +kernel
theorem dX11_compareLines_58 : decode cX11_compareLines 58 = .ok (.iinc 4 1, 3) := by decide +kernel
theorem dX11_compareLines_61 : decode cX11_compareLines 61 = .ok (.goto (-44), 3) := by decide +kernel
theorem dX11_compareLines_64 : decode cX11_compareLines 64 = .ok (.aload_n 0, 1) := by decide +kernel
theorem dX11_compareLines_65 : decode cX11_compareLines 65 = .ok (.iload_n 1, 1) := by decide +kernel
theorem dX11_compareLines_66 : decode cX11_compareLines 66 = .ok (.invokevirtual 33, 3) := by decide +kernel
theorem dX11_compareLines_69 : decode cX11_compareLines 69 = .ok (.aload_n 0, 1) := by decide +kernel
theorem dX11_compareLines_70 : decode cX11_compareLines 70 = .ok (.iload_n 2, 1) := by decide +kernel
theorem dX11_compareLines_71 : decode cX11_compareLines 71 = .ok (.invokevirtual 33, 3) := by decide +kernel
theorem dX11_compareLines_74 : decode cX11_compareLines 74 = .ok (.isub, 1) := by decide +kernel
theorem dX11_compareLines_75 : decode cX11_compareLines 75 = .ok (.ireturn, 1) := by decide +kernel
theorem dX12_length_0 : decode cX12_length 0 = .ok (.iload_n 1, 1) := by decide +kernel
theorem dX12_length_1 : decode cX12_length 1 = .ok (.ifCond .lt 17, 3) := by decide +kernel
theorem dX12_length_4 : decode cX12_length 4 = .ok (.iload_n 1, 1) := by decide +kernel
theorem dX12_length_5 : decode cX12_length 5 = .ok (.aload_n 0, 1) := by decide +kernel
theorem dX12_length_6 : decode cX12_length 6 = .ok (.getfield 31, 3) := by decide +kernel
theorem dX12_length_9 : decode cX12_length 9 = .ok (.getfield 91, 3) := by decide +kernel
theorem dX12_length_12 : decode cX12_length 12 = .ok (.getfield 95, 3) := by decide +kernel
theorem dX12_length_15 : decode cX12_length 15 = .ok (.if_icmp .lt 13, 3) := by decide +kernel
theorem dX12_length_28 : decode cX12_length 28 = .ok (.aload_n 0, 1) := by decide +kernel
theorem dX12_length_29 : decode cX12_length 29 = .ok (.getfield 31, 3) := by decide +kernel
theorem dX12_length_32 : decode cX12_length 32 = .ok (.getfield 91, 3) := by decide +kernel
theorem dX12_length_35 : decode cX12_length 35 = .ok (.iload_n 1, 1) := by decide +kernel
theorem dX12_length_36 : decode cX12_length 36 = .ok (.invokevirtual 162, 3) := by decide +kernel
theorem dX12_length_39 : decode cX12_length 39 = .ok (.ireturn, 1) := by decide +kernel
theorem dX12_foldOf_0 : decode cX12_foldOf 0 = .ok (.iload_n 1, 1) := by decide +kernel
theorem dX12_foldOf_1 : decode cX12_foldOf 1 = .ok (.ifCond .lt 17, 3) := by decide +kernel
theorem dX12_foldOf_4 : decode cX12_foldOf 4 = .ok (.iload_n 1, 1) := by decide +kernel
theorem dX12_foldOf_5 : decode cX12_foldOf 5 = .ok (.aload_n 0, 1) := by decide +kernel
theorem dX12_foldOf_6 : decode cX12_foldOf 6 = .ok (.getfield 31, 3) := by decide +kernel
theorem dX12_foldOf_9 : decode cX12_foldOf 9 = .ok (.getfield 91, 3) := by decide +kernel
theorem dX12_foldOf_12 : decode cX12_foldOf 12 = .ok (.getfield 95, 3) := by decide +kernel
theorem dX12_foldOf_15 : decode cX12_foldOf 15 = .ok (.if_icmp .lt 13, 3) := by decide +kernel
theorem dX12_foldOf_28 : decode cX12_foldOf 28 = .ok (.aload_n 0, 1) := by decide +kernel
theorem dX12_foldOf_29 : decode cX12_foldOf 29 = .ok (.getfield 31, 3) := by decide +kernel
theorem dX12_foldOf_32 : decode cX12_foldOf 32 = .ok (.getfield 171, 3) := by decide +kernel
theorem dX12_foldOf_35 : decode cX12_foldOf 35 = .ok (.iload_n 1, 1) := by decide +kernel
theorem dX12_foldOf_36 : decode cX12_foldOf 36 = .ok (.invokevirtual 225, 3) := by decide +kernel
theorem dX12_foldOf_39 : decode cX12_foldOf 39 = .ok (.iconst (-1), 1) := by decide +kernel
theorem dX12_foldOf_40 : decode cX12_foldOf 40 = .ok (.if_icmp .ne 5, 3) := by decide +kernel
theorem dX12_foldOf_43 : decode cX12_foldOf 43 = .ok (.iconst (-1), 1) := by decide +kernel
theorem dX12_foldOf_44 : decode cX12_foldOf 44 = .ok (.ireturn, 1) := by decide +kernel
theorem dX12_foldOf_45 : decode cX12_foldOf 45 = .ok (.bipush 100, 2) := by decide +kernel
theorem dX12_foldOf_47 : decode cX12_foldOf 47 = .ok (.aload_n 0, 1) := by decide +kernel
theorem dX12_foldOf_48 : decode cX12_foldOf 48 = .ok (.getfield 31, 3) := by decide +kernel
theorem dX12_foldOf_51 : decode cX12_foldOf 51 = .ok (.getfield 171, 3) := by decide +kernel
theorem dX12_foldOf_54 : decode cX12_foldOf 54 = .ok (.iload_n 1, 1) := by decide +kernel
theorem dX12_foldOf_55 : decode cX12_foldOf 55 = .ok (.invokevirtual 228, 3) := by decide +kernel
theorem dX12_foldOf_58 : decode cX12_foldOf 58 = .ok (.imul, 1) := by decide +kernel
theorem dX12_foldOf_59 : decode cX12_foldOf 59 = .ok (.aload_n 0, 1) := by decide +kernel
theorem dX12_foldOf_60 : decode cX12_foldOf 60 = .ok (.getfield 31, 3) := by decide +kernel
theorem dX12_foldOf_63 : decode cX12_foldOf 63 = .ok (.getfield 171, 3) := by decide +kernel
theorem dX12_foldOf_66 : decode cX12_foldOf 66 = .ok (.iload_n 1, 1) := by decide +kernel
theorem dX12_foldOf_67 : decode cX12_foldOf 67 = .ok (.invokevirtual 231, 3) := by decide +kernel
theorem dX12_foldOf_70 : decode cX12_foldOf 70 = .ok (.iadd, 1) := by decide +kernel
theorem dX12_foldOf_71 : decode cX12_foldOf 71 = .ok (.ireturn, 1) := by decide +kernel

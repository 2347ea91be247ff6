theorem dX13_isIn_0 : decode cX13_isIn 0 = .ok (.iload_n 0, 1) := by decide +kernel
theorem dX13_isIn_1 : decode cX13_isIn 1 = .ok (.iload_n 1, 1) := by decide +kernel
theorem dX13_isIn_2 : decode cX13_isIn 2 = .ok (.if_icmp .lt 12, 3) := by decide +kernel
theorem dX13_isIn_5 : decode cX13_isIn 5 = .ok (.iload_n 0, 1) := by decide +kernel
theorem dX13_isIn_6 : decode cX13_isIn 6 = .ok (.iload_n 2, 1) := by decide +kernel
theorem dX13_isIn_7 : decode cX13_isIn 7 = .ok (.if_icmp .gt 7, 3) := by decide +kernel
theorem dX13_isIn_10 : decode cX13_isIn 10 = .ok (.iconst 1, 1) := by decide +kernel
theorem dX13_isIn_11 : decode cX13_isIn 11 = .ok (.goto 4, 3) := by decide +kernel
theorem dX13_isIn_14 : decode cX13_isIn 14 = .ok (.iconst 0, 1) := by decide +kernel
theorem dX13_isIn_15 : decode cX13_isIn 15 = .ok (.ireturn, 1) := by decide +kernel
theorem dX13_lesser_0 : decode cX13_lesser 0 = .ok (.iload_n 0, 1) := by decide +kernel
theorem dX13_lesser_1 : decode cX13_lesser 1 = .ok (.iload_n 1, 1) := by decide +kernel
theorem dX13_lesser_2 : decode cX13_lesser 2 = .ok (.if_icmp .ge 7, 3) := by decide +kernel
theorem dX13_lesser_5 : decode cX13_lesser 5 = .ok (.iload_n 0, 1) := by decide +kernel
theorem dX13_lesser_6 : decode cX13_lesser 6 = .ok (.goto 4, 3) := by decide +kernel
theorem dX13_lesser_9 : decode cX13_lesser 9 = .ok (.iload_n 1, 1) := by decide +kernel
theorem dX13_lesser_10 : decode cX13_lesser 10 = .ok (.ireturn, 1) := by decide +kernel
theorem dX13_greater_0 : decode cX13_greater 0 = .ok (.iload_n 0, 1) := by decide +kernel
theorem dX13_greater_1 : decode cX13_greater 1 = .ok (.iload_n 1, 1) := by decide +kernel
theorem dX13_greater_2 : decode cX13_greater 2 = .ok (.if_icmp .le 7, 3) := by decide +kernel
theorem dX13_greater_5 : decode cX13_greater 5 = .ok (.iload_n 0, 1) := by decide +kernel
theorem dX13_greater_6 : decode cX13_greater 6 = .ok (.goto 4, 3) := by decide +kernel
theorem dX13_greater_9 : decode cX13_greater 9 = .ok (.iload_n 1, 1) := by decide +kernel
theorem dX13_greater_10 : decode cX13_greater 10 = .ok (.ireturn, 1) := by decide +kernel
theorem dX13_isSign_0 : decode cX13_isSign 0 = .ok (.iload_n 0, 1) := by decide +kernel
theorem dX13_isSign_1 : decode cX13_isSign 1 = .ok (.bipush 32, 2) := by decide +kernel
theorem dX13_isSign_3 : decode cX13_isSign 3 = .ok (.bipush 126, 2) := by decide +kernel
theorem dX13_isSign_5 : decode cX13_isSign 5 = .ok (.invokestatic 198, 3) := by decide +kernel
theorem dX13_isSign_8 : decode cX13_isSign 8 = .ok (.ireturn, 1) := by decide +kernel
theorem dX13_isKey_0 : decode cX13_isKey 0 = .ok (.iload_n 0, 1) := by decide +kernel
theorem dX13_isKey_1 : decode cX13_isKey 1 = .ok (.invokestatic 202, 3) := by decide +kernel
theorem dX13_isKey_4 : decode cX13_isKey 4 = .ok (.ifCond .ne 45, 3) := by decide +kernel
theorem dX13_isKey_7 : decode cX13_isKey 7 = .ok (.iload_n 0, 1) := by decide +kernel
theorem dX13_isKey_8 : decode cX13_isKey 8 = .ok (.bipush 8, 2) := by decide +kernel
theorem dX13_isKey_10 : decode cX13_isKey 10 = .ok (.if_icmp .eq 39, 3) := by decide +kernel
theorem dX13_isKey_13 : decode cX13_isKey 13 = .ok (.iload_n 0, 1) := by decide +kernel
theorem dX13_isKey_14 : decode cX13_isKey 14 = .ok (.bipush 9, 2) := by decide +kernel
theorem dX13_isKey_16 : decode cX13_isKey 16 = .ok (.if_icmp .eq 33, 3) := by decide +kernel
theorem dX13_isKey_19 : decode cX13_isKey 19 = .ok (.iload_n 0, 1) := by decide +kernel
theorem dX13_isKey_20 : decode cX13_isKey 20 = .ok (.bipush 13, 2) := by decide +kernel
theorem dX13_isKey_22 : decode cX13_isKey 22 = .ok (.if_icmp .eq 27, 3) := by decide +kernel
theorem dX13_isKey_25 : decode cX13_isKey 25 = .ok (.iload_n 0, 1) := by decide +kernel
theorem dX13_isKey_26 : decode cX13_isKey 26 = .ok (.bipush 15, 2) := by decide +kernel
theorem dX13_isKey_28 : decode cX13_isKey 28 = .ok (.if_icmp .eq 21, 3) := by decide +kernel
theorem dX13_isKey_31 : decode cX13_isKey 31 = .ok (.iload_n 0, 1) := by decide +kernel
theorem dX13_isKey_32 : decode cX13_isKey 32 = .ok (.bipush 18, 2) := by decide +kernel
theorem dX13_isKey_34 : decode cX13_isKey 34 = .ok (.if_icmp .eq 15, 3) := by decide +kernel
theorem dX13_isKey_37 : decode cX13_isKey 37 = .ok (.iload_n 0, 1) := by decide +kernel
theorem dX13_isKey_38 : decode cX13_isKey 38 = .ok (.bipush 22, 2) := by decide +kernel
theorem dX13_isKey_40 : decode cX13_isKey 40 = .ok (.if_icmp .eq 9, 3) := by decide +kernel
theorem dX13_isKey_43 : decode cX13_isKey 43 = .ok (.iload_n 0, 1) := by decide +kernel
theorem dX13_isKey_44 : decode cX13_isKey 44 = .ok (.bipush 27, 2) := by decide +kernel
theorem dX13_isKey_46 : decode cX13_isKey 46 = .ok (.if_icmp .ne 7, 3) := by decide +kernel
theorem dX13_isKey_49 : decode cX13_isKey 49 = .ok (.iconst 1, 1) := by decide +kernel
theorem dX13_isKey_50 : decode cX13_isKey 50 = .ok (.goto 4, 3) := by decide +kernel
theorem dX13_isKey_53 : decode cX13_isKey 53 = .ok (.iconst 0, 1) := by decide +kernel
theorem dX13_isKey_54 : decode cX13_isKey 54 = .ok (.ireturn, 1) := by decide +kernel
theorem dX13_at_0 : decode cX13_at 0 = .ok (.aload_n 0, 1) := by decide +kernel
theorem dX13_at_1 : decode cX13_at 1 = .ok (.getfield 20, 3) := by decide +kernel
theorem dX13_at_4 : decode cX13_at 4 = .ok (.bipush 60, 2) := by decide +kernel
theorem dX13_at_6 : decode cX13_at 6 = .ok (.iload_n 1, 1) := by decide +kernel
theorem dX13_at_7 : decode cX13_at 7 = .ok (.imul, 1) := by decide +kernel
theorem dX13_at_8 : decode cX13_at 8 = .ok (.iload_n 2, 1) := by decide +kernel
theorem dX13_at_9 : decode cX13_at 9 = .ok (.iadd, 1) := by decide +kernel
theorem dX13_at_10 : decode cX13_at 10 = .ok (.iaload, 1) := by decide +kernel
theorem dX13_at_11 : decode cX13_at 11 = .ok (.ireturn, 1) := by decide +kernel
theorem dX13_indent_0 : decode cX13_indent 0 = .ok (.iconst 0, 1) := by decide +kernel
theorem dX13_indent_1 : decode cX13_indent 1 = .ok (.istore_n 2, 1) := by decide +kernel
theorem dX13_indent_2 : decode cX13_indent 2 = .ok (.iload_n 2, 1) := by decide +kernel
theorem dX13_indent_3 : decode cX13_indent 3 = .ok (.aload_n 0, 1) := by decide +kernel
theorem dX13_indent_4 : decode cX13_indent 4 = .ok (.getfield 17, 3) := by decide +kernel
theorem dX13_indent_7 : decode cX13_indent 7 = .ok (.iload_n 1, 1) := by decide +kernel
theorem dX13_indent_8 : decode cX13_indent 8 = .ok (.iaload, 1) := by decide +kernel
theorem dX13_indent_9 : decode cX13_indent 9 = .ok (.if_icmp .ge 20, 3) := by decide +kernel
theorem dX13_indent_12 : decode cX13_indent 12 = .ok (.aload_n 0, 1) := by decide +kernel
theorem dX13_indent_13 : decode cX13_indent 13 = .ok (.iload_n 1, 1) := by decide +kernel
theorem dX13_indent_14 : decode cX13_indent 14 = .ok (.iload_n 2, 1) := by decide +kernel
theorem dX13_indent_15 : decode cX13_indent 15 = .ok (.invokevirtual 206, 3) := by decide +kernel
theorem dX13_indent_18 : decode cX13_indent 18 = .ok (.bipush 32, 2) := by decide +kernel
theorem dX13_indent_20 : decode cX13_indent 20 = .ok (.if_icmp .ne 9, 3) := by decide +kernel
theorem dX13_indent_23 : decode cX13_indent 23 = .ok (.iinc 2 1, 3) := by decide +kernel
theorem dX13_indent_26 : decode cX13_indent 26 = .ok (.goto (-24), 3) := by decide +kernel
theorem dX13_indent_29 : decode cX13_indent 29 = .ok (.iload_n 2, 1) := by decide +kernel
theorem dX13_indent_30 : decode cX13_indent 30 = .ok (.aload_n 0, 1) := by decide +kernel
theorem dX13_indent_31 : decode cX13_indent 31 = .ok (.getfield 17, 3) := by decide +kernel
theorem dX13_indent_34 : decode cX13_indent 34 = .ok (.iload_n 1, 1) := by decide +kernel
theorem dX13_indent_35 : decode cX13_indent 35 = .ok (.iaload, 1) := by decide +kernel
theorem dX13_indent_36 : decode cX13_indent 36 = .ok (.if_icmp .ne 13, 3) := by decide +kernel
theorem dX13_indent_39 : decode cX13_indent 39 = .ok (.iconst 0, 1) := by decide +kernel
theorem dX13_indent_40 : decode cX13_indent 40 = .ok (.iload_n 2, 1) := by decide +kernel
theorem dX13_indent_41 : decode cX13_indent 41 = .ok (.iconst 1, 1) := by decide +kernel
theorem dX13_indent_42 : decode cX13_indent 42 = .ok (.isub, 1) := by decide +kernel
theorem dX13_indent_43 : decode cX13_indent 43 = .ok (.invokestatic 210, 3) := by decide +kernel
theorem dX13_indent_46 : decode cX13_indent 46 = .ok (.goto 4, 3) := by decide +kernel
theorem dX13_indent_49 : decode cX13_indent 49 = .ok (.iload_n 2, 1) := by decide +kernel
theorem dX13_indent_50 : decode cX13_indent 50 = .ok (.ireturn, 1) := by decide +kernel
theorem dX13_lastOf_0 : decode cX13_lastOf 0 = .ok (.iconst 0, 1) := by decide +kernel
theorem dX13_lastOf_1 : decode cX13_lastOf 1 = .ok (.aload_n 0, 1) := by decide +kernel
theorem dX13_lastOf_2 : decode cX13_lastOf 2 = .ok (.getfield 17, 3) := by decide +kernel
theorem dX13_lastOf_5 : decode cX13_lastOf 5 = .ok (.iload_n 1, 1) := by decide +kernel
theorem dX13_lastOf_6 : decode cX13_lastOf 6 = .ok (.iaload, 1) := by decide +kernel
theorem dX13_lastOf_7 : decode cX13_lastOf 7 = .ok (.iconst 1, 1) := by decide +kernel
theorem dX13_lastOf_8 : decode cX13_lastOf 8 = .ok (.isub, 1) := by decide +kernel
theorem dX13_lastOf_9 : decode cX13_lastOf 9 = .ok (.invokestatic 210, 3) := by decide +kernel
theorem dX13_lastOf_12 : decode cX13_lastOf 12 = .ok (.ireturn, 1) := by decide +kernel
theorem dX13_goes_0 : decode cX13_goes 0 = .ok (.aload_n 0, 1) := by decide +kernel
theorem dX13_goes_1 : decode cX13_goes 1 = .ok (.iload_n 1, 1) := by decide +kernel
theorem dX13_goes_2 : decode cX13_goes 2 = .ok (.putfield 213, 3) := by decide +kernel
theorem dX13_goes_5 : decode cX13_goes 5 = .ok (.aload_n 0, 1) := by decide +kernel
theorem dX13_goes_6 : decode cX13_goes 6 = .ok (.iload_n 2, 1) := by decide +kernel
theorem dX13_goes_7 : decode cX13_goes 7 = .ok (.putfield 216, 3) := by decide +kernel
theorem dX13_goes_10 : decode cX13_goes 10 = .ok (.aload_n 0, 1) := by decide +kernel
theorem dX13_goes_11 : decode cX13_goes 11 = .ok (.iload_n 2, 1) := by decide +kernel
theorem dX13_goes_12 : decode cX13_goes 12 = .ok (.putfield 219, 3) := by decide +kernel
theorem dX13_goes_15 : decode cX13_goes 15 = .ok (.return_, 1) := by decide +kernel
theorem dX13_goesTo_0 : decode cX13_goesTo 0 = .ok (.aload_n 0, 1) := by decide +kernel
theorem dX13_goesTo_1 : decode cX13_goesTo 1 = .ok (.iload_n 1, 1) := by decide +kernel
theorem dX13_goesTo_2 : decode cX13_goesTo 2 = .ok (.aload_n 0, 1) := by decide +kernel
theorem dX13_goesTo_3 : decode cX13_goesTo 3 = .ok (.iload_n 1, 1) := by decide +kernel
theorem dX13_goesTo_4 : decode cX13_goesTo 4 = .ok (.invokevirtual 222, 3) := by decide +kernel
theorem dX13_goesTo_7 : decode cX13_goesTo 7 = .ok (.invokevirtual 226, 3) := by decide +kernel
theorem dX13_goesTo_10 : decode cX13_goesTo 10 = .ok (.return_, 1) := by decide +kernel
theorem dX13_behind_0 : decode cX13_behind 0 = .ok (.iload_n 0, 1) := by decide +kernel
theorem dX13_behind_1 : decode cX13_behind 1 = .ok (.iload_n 1, 1) := by decide +kernel
theorem dX13_behind_2 : decode cX13_behind 2 = .ok (.if_icmp .lt 9, 3) := by decide +kernel
theorem dX13_behind_5 : decode cX13_behind 5 = .ok (.iload_n 0, 1) := by decide +kernel
theorem dX13_behind_6 : decode cX13_behind 6 = .ok (.iload_n 2, 1) := by decide +kernel
theorem dX13_behind_7 : decode cX13_behind 7 = .ok (.iadd, 1) := by decide +kernel
theorem dX13_behind_8 : decode cX13_behind 8 = .ok (.goto 4, 3) := by decide +kernel
theorem dX13_behind_11 : decode cX13_behind 11 = .ok (.iload_n 0, 1) := by decide +kernel
theorem dX13_behind_12 : decode cX13_behind 12 = .ok (.ireturn, 1) := by decide +kernel
theorem dX13_closedAt_0 : decode cX13_closedAt 0 = .ok (.iconst (-1), 1) := by decide +kernel
theorem dX13_closedAt_1 : decode cX13_closedAt 1 = .ok (.istore_n 2, 1) := by decide +kernel
theorem dX13_closedAt_2 : decode cX13_closedAt 2 = .ok (.iconst 0, 1) := by decide +kernel
theorem dX13_closedAt_3 : decode cX13_closedAt 3 = .ok (.istore_n 3, 1) := by decide +kernel
theorem dX13_closedAt_4 : decode cX13_closedAt 4 = .ok (.iload_n 3, 1) := by decide +kernel
theorem dX13_closedAt_5 : decode cX13_closedAt 5 = .ok (.iload_n 1, 1) := by decide +kernel
theorem dX13_closedAt_6 : decode cX13_closedAt 6 = .ok (.if_icmp .gt 69, 3) := by decide +kernel
theorem dX13_closedAt_9 : decode cX13_closedAt 9 = .ok (.iload_n 2, 1) := by decide +kernel
theorem dX13_closedAt_10 : decode cX13_closedAt 10 = .ok (.iconst (-1), 1) := by decide +kernel
theorem dX13_closedAt_11 : decode cX13_closedAt 11 = .ok (.if_icmp .ne 64, 3) := by decide +kernel
theorem dX13_closedAt_14 : decode cX13_closedAt 14 = .ok (.aload_n 0, 1) := by decide +kernel
theorem dX13_closedAt_15 : decode cX13_closedAt 15 = .ok (.getfield 237, 3) := by decide +kernel
theorem dX13_closedAt_18 : decode cX13_closedAt 18 = .ok (.ifCond .le 57, 3) := by decide +kernel
theorem dX13_closedAt_21 : decode cX13_closedAt 21 = .ok (.bipush 39, 2) := by decide +kernel
theorem dX13_closedAt_23 : decode cX13_closedAt 23 = .ok (.istore 4, 2) := by decide +kernel
theorem dX13_closedAt_25 : decode cX13_closedAt 25 = .ok (.iload 4, 2) := by decide +kernel
theorem dX13_closedAt_27 : decode cX13_closedAt 27 = .ok (.iload_n 1, 1) := by decide +kernel
theorem dX13_closedAt_28 : decode cX13_closedAt 28 = .ok (.if_icmp .lt 41, 3) := by decide +kernel
theorem dX13_closedAt_31 : decode cX13_closedAt 31 = .ok (.iload_n 2, 1) := by decide +kernel
theorem dX13_closedAt_32 : decode cX13_closedAt 32 = .ok (.iconst (-1), 1) := by decide +kernel
theorem dX13_closedAt_33 : decode cX13_closedAt 33 = .ok (.if_icmp .ne 36, 3) := by decide +kernel
theorem dX13_closedAt_36 : decode cX13_closedAt 36 = .ok (.aload_n 0, 1) := by decide +kernel
theorem dX13_closedAt_37 : decode cX13_closedAt 37 = .ok (.getfield 51, 3) := by decide +kernel
theorem dX13_closedAt_40 : decode cX13_closedAt 40 = .ok (.bipush 40, 2) := by decide +kernel
theorem dX13_closedAt_42 : decode cX13_closedAt 42 = .ok (.iload_n 3, 1) := by decide +kernel
theorem dX13_closedAt_43 : decode cX13_closedAt 43 = .ok (.imul, 1) := by decide +kernel
theorem dX13_closedAt_44 : decode cX13_closedAt 44 = .ok (.iload 4, 2) := by decide +kernel
theorem dX13_closedAt_46 : decode cX13_closedAt 46 = .ok (.iadd, 1) := by decide +kernel
theorem dX13_closedAt_47 : decode cX13_closedAt 47 = .ok (.iaload, 1) := by decide +kernel
theorem dX13_closedAt_48 : decode cX13_closedAt 48 = .ok (.ifCond .le 13, 3) := by decide +kernel
theorem dX13_closedAt_51 : decode cX13_closedAt 51 = .ok (.bipush 40, 2) := by decide +kernel
theorem dX13_closedAt_53 : decode cX13_closedAt 53 = .ok (.iload_n 3, 1) := by decide +kernel
theorem dX13_closedAt_54 : decode cX13_closedAt 54 = .ok (.imul, 1) := by decide +kernel
theorem dX13_closedAt_55 : decode cX13_closedAt 55 = .ok (.iload 4, 2) := by decide +kernel
theorem dX13_closedAt_57 : decode cX13_closedAt 57 = .ok (.iadd, 1) := by decide +kernel
theorem dX13_closedAt_58 : decode cX13_closedAt 58 = .ok (.goto 4, 3) := by decide +kernel
theorem dX13_closedAt_61 : decode cX13_closedAt 61 = .ok (.iload_n 2, 1) := by decide +kernel
theorem dX13_closedAt_62 : decode cX13_closedAt 62 = .ok (.istore_n 2, 1) := by decide +kernel
theorem dX13_closedAt_63 : decode cX13_closedAt 63 = .ok (.iinc 4 (-1), 3) := by decide +kernel
theorem dX13_closedAt_66 : decode cX13_closedAt 66 = .ok (.goto (-41), 3) := by decide +kernel
theorem dX13_closedAt_69 : decode cX13_closedAt 69 = .ok (.iinc 3 1, 3) := by decide +kernel
theorem dX13_closedAt_72 : decode cX13_closedAt 72 = .ok (.goto (-68), 3) := by decide +kernel
theorem dX13_closedAt_75 : decode cX13_closedAt 75 = .ok (.iload_n 2, 1) := by decide +kernel
theorem dX13_closedAt_76 : decode cX13_closedAt 76 = .ok (.ireturn, 1) := by decide +kernel
theorem dX13_firstSeen_0 : decode cX13_firstSeen 0 = .ok (.aload_n 0, 1) := by decide +kernel
theorem dX13_firstSeen_1 : decode cX13_firstSeen 1 = .ok (.iload_n 1, 1) := by decide +kernel
theorem dX13_firstSeen_2 : decode cX13_firstSeen 2 = .ok (.invokevirtual 287, 3) := by decide +kernel
theorem dX13_firstSeen_5 : decode cX13_firstSeen 5 = .ok (.istore_n 2, 1) := by decide +kernel
theorem dX13_firstSeen_6 : decode cX13_firstSeen 6 = .ok (.iload_n 2, 1) := by decide +kernel
theorem dX13_firstSeen_7 : decode cX13_firstSeen 7 = .ok (.iconst (-1), 1) := by decide +kernel
theorem dX13_firstSeen_8 : decode cX13_firstSeen 8 = .ok (.if_icmp .ne 7, 3) := by decide +kernel
theorem dX13_firstSeen_11 : decode cX13_firstSeen 11 = .ok (.iload_n 1, 1) := by decide +kernel
theorem dX13_firstSeen_12 : decode cX13_firstSeen 12 = .ok (.goto 7, 3) := by decide +kernel
theorem dX13_firstSeen_15 : decode cX13_firstSeen 15 = .ok (.iload_n 2, 1) := by decide +kernel
theorem dX13_firstSeen_16 : decode cX13_firstSeen 16 = .ok (.bipush 40, 2) := by decide +kernel
theorem dX13_firstSeen_18 : decode cX13_firstSeen 18 = .ok (.idiv, 1) := by decide +kernel
theorem dX13_firstSeen_19 : decode cX13_firstSeen 19 = .ok (.ireturn, 1) := by decide +kernel
theorem dX13_classOf_0 : decode cX13_classOf 0 = .ok (.iload_n 0, 1) := by decide +kernel
theorem dX13_classOf_1 : decode cX13_classOf 1 = .ok (.bipush 32, 2) := by decide +kernel
theorem dX13_classOf_3 : decode cX13_classOf 3 = .ok (.if_icmp .ne 7, 3) := by decide +kernel
theorem dX13_classOf_6 : decode cX13_classOf 6 = .ok (.iconst 0, 1) := by decide +kernel
theorem dX13_classOf_7 : decode cX13_classOf 7 = .ok (.goto 47, 3) := by decide +kernel
theorem dX13_classOf_10 : decode cX13_classOf 10 = .ok (.iload_n 0, 1) := by decide +kernel
theorem dX13_classOf_11 : decode cX13_classOf 11 = .ok (.bipush 97, 2) := by decide +kernel
theorem dX13_classOf_13 : decode cX13_classOf 13 = .ok (.bipush 122, 2) := by decide +kernel
theorem dX13_classOf_15 : decode cX13_classOf 15 = .ok (.invokestatic 198, 3) := by decide +kernel
theorem dX13_classOf_18 : decode cX13_classOf 18 = .ok (.ifCond .ne 31, 3) := by decide +kernel
theorem dX13_classOf_21 : decode cX13_classOf 21 = .ok (.iload_n 0, 1) := by decide +kernel
theorem dX13_classOf_22 : decode cX13_classOf 22 = .ok (.bipush 65, 2) := by decide +kernel
theorem dX13_classOf_24 : decode cX13_classOf 24 = .ok (.bipush 90, 2) := by decide +kernel
theorem dX13_classOf_26 : decode cX13_classOf 26 = .ok (.invokestatic 198, 3) := by decide +kernel
theorem dX13_classOf_29 : decode cX13_classOf 29 = .ok (.ifCond .ne 20, 3) := by decide +kernel
theorem dX13_classOf_32 : decode cX13_classOf 32 = .ok (.iload_n 0, 1) := by decide +kernel
theorem dX13_classOf_33 : decode cX13_classOf 33 = .ok (.bipush 48, 2) := by decide +kernel
theorem dX13_classOf_35 : decode cX13_classOf 35 = .ok (.bipush 57, 2) := by decide +kernel
theorem dX13_classOf_37 : decode cX13_classOf 37 = .ok (.invokestatic 198, 3) := by decide +kernel
theorem dX13_classOf_40 : decode cX13_classOf 40 = .ok (.ifCond .ne 9, 3) := by decide +kernel
theorem dX13_classOf_43 : decode cX13_classOf 43 = .ok (.iload_n 0, 1) := by decide +kernel
theorem dX13_classOf_44 : decode cX13_classOf 44 = .ok (.bipush 95, 2) := by decide +kernel
theorem dX13_classOf_46 : decode cX13_classOf 46 = .ok (.if_icmp .ne 7, 3) := by decide +kernel
theorem dX13_classOf_49 : decode cX13_classOf 49 = .ok (.iconst 1, 1) := by decide +kernel
theorem dX13_classOf_50 : decode cX13_classOf 50 = .ok (.goto 4, 3) := by decide +kernel
theorem dX13_classOf_53 : decode cX13_classOf 53 = .ok (.iconst 2, 1) := by decide +kernel
theorem dX13_classOf_54 : decode cX13_classOf 54 = .ok (.ireturn, 1) := by decide +kernel
theorem dX13_classAt_0 : decode cX13_classAt 0 = .ok (.iload_n 2, 1) := by decide +kernel
theorem dX13_classAt_1 : decode cX13_classAt 1 = .ok (.iconst 0, 1) := by decide +kernel
theorem dX13_classAt_2 : decode cX13_classAt 2 = .ok (.aload_n 0, 1) := by decide +kernel
theorem dX13_classAt_3 : decode cX13_classAt 3 = .ok (.getfield 17, 3) := by decide +kernel
theorem dX13_classAt_6 : decode cX13_classAt 6 = .ok (.iload_n 1, 1) := by decide +kernel
theorem dX13_classAt_7 : decode cX13_classAt 7 = .ok (.iaload, 1) := by decide +kernel
theorem dX13_classAt_8 : decode cX13_classAt 8 = .ok (.iconst 1, 1) := by decide +kernel
theorem dX13_classAt_9 : decode cX13_classAt 9 = .ok (.isub, 1) := by decide +kernel
theorem dX13_classAt_10 : decode cX13_classAt 10 = .ok (.invokestatic 198, 3) := by decide +kernel
theorem dX13_classAt_13 : decode cX13_classAt 13 = .ok (.ifCond .eq 15, 3) := by decide +kernel
theorem dX13_classAt_16 : decode cX13_classAt 16 = .ok (.aload_n 0, 1) := by decide +kernel
theorem dX13_classAt_17 : decode cX13_classAt 17 = .ok (.iload_n 1, 1) := by decide +kernel
theorem dX13_classAt_18 : decode cX13_classAt 18 = .ok (.iload_n 2, 1) := by decide +kernel
theorem dX13_classAt_19 : decode cX13_classAt 19 = .ok (.invokevirtual 206, 3) := by decide +kernel
theorem dX13_classAt_22 : decode cX13_classAt 22 = .ok (.invokestatic 290, 3) := by decide +kernel
theorem dX13_classAt_25 : decode cX13_classAt 25 = .ok (.goto 4, 3) := by decide +kernel
theorem dX13_classAt_28 : decode cX13_classAt 28 = .ok (.iconst (-1), 1) := by decide +kernel
theorem dX13_classAt_29 : decode cX13_classAt 29 = .ok (.ireturn, 1) := by decide +kernel
theorem dX13_isStop_0 : decode cX13_isStop 0 = .ok (.aload_n 0, 1) := by decide +kernel
theorem dX13_isStop_1 : decode cX13_isStop 1 = .ok (.iload_n 1, 1) := by decide +kernel
theorem dX13_isStop_2 : decode cX13_isStop 2 = .ok (.iload_n 2, 1) := by decide +kernel
theorem dX13_isStop_3 : decode cX13_isStop 3 = .ok (.invokevirtual 293, 3) := by decide +kernel
theorem dX13_isStop_6 : decode cX13_isStop 6 = .ok (.istore_n 3, 1) := by decide +kernel
theorem dX13_isStop_7 : decode cX13_isStop 7 = .ok (.aload_n 0, 1) := by decide +kernel
theorem dX13_isStop_8 : decode cX13_isStop 8 = .ok (.getfield 17, 3) := by decide +kernel
theorem dX13_isStop_11 : decode cX13_isStop 11 = .ok (.iload_n 1, 1) := by decide +kernel
theorem dX13_isStop_12 : decode cX13_isStop 12 = .ok (.iaload, 1) := by decide +kernel
theorem dX13_isStop_13 : decode cX13_isStop 13 = .ok (.ifCond .eq 19, 3) := by decide +kernel
theorem dX13_isStop_16 : decode cX13_isStop 16 = .ok (.iload_n 3, 1) := by decide +kernel
theorem dX13_isStop_17 : decode cX13_isStop 17 = .ok (.ifCond .le 19, 3) := by decide +kernel
theorem dX13_isStop_20 : decode cX13_isStop 20 = .ok (.aload_n 0, 1) := by decide +kernel
theorem dX13_isStop_21 : decode cX13_isStop 21 = .ok (.iload_n 1, 1) := by decide +kernel
theorem dX13_isStop_22 : decode cX13_isStop 22 = .ok (.iload_n 2, 1) := by decide +kernel
theorem dX13_isStop_23 : decode cX13_isStop 23 = .ok (.iconst 1, 1) := by decide +kernel
theorem dX13_isStop_24 : decode cX13_isStop 24 = .ok (.isub, 1) := by decide +kernel
theorem dX13_isStop_25 : decode cX13_isStop 25 = .ok (.invokevirtual 293, 3) := by decide +kernel
theorem dX13_isStop_28 : decode cX13_isStop 28 = .ok (.iload_n 3, 1) := by decide +kernel
theorem dX13_isStop_29 : decode cX13_isStop 29 = .ok (.if_icmp .eq 7, 3) := by decide +kernel
theorem dX13_isStop_32 : decode cX13_isStop 32 = .ok (.iconst 1, 1) := by decide +kernel
theorem dX13_isStop_33 : decode cX13_isStop 33 = .ok (.goto 4, 3) := by decide +kernel
theorem dX13_isStop_36 : decode cX13_isStop 36 = .ok (.iconst 0, 1) := by decide +kernel
theorem dX13_isStop_37 : decode cX13_isStop 37 = .ok (.ireturn, 1) := by decide +kernel
theorem dX13_reaches_0 : decode cX13_reaches 0 = .ok (.aload_n 0, 1) := by decide +kernel
theorem dX13_reaches_1 : decode cX13_reaches 1 = .ok (.iload_n 1, 1) := by decide +kernel
theorem dX13_reaches_2 : decode cX13_reaches 2 = .ok (.putfield 296, 3) := by decide +kernel
theorem dX13_reaches_5 : decode cX13_reaches 5 = .ok (.aload_n 0, 1) := by decide +kernel
theorem dX13_reaches_6 : decode cX13_reaches 6 = .ok (.iload_n 2, 1) := by decide +kernel
theorem dX13_reaches_7 : decode cX13_reaches 7 = .ok (.putfield 299, 3) := by decide +kernel
theorem dX13_reaches_10 : decode cX13_reaches 10 = .ok (.return_, 1) := by decide +kernel
theorem dX13_nextStop_0 : decode cX13_nextStop 0 = .ok (.aload_n 0, 1) := by decide +kernel
theorem dX13_nextStop_1 : decode cX13_nextStop 1 = .ok (.getfield 296, 3) := by decide +kernel
theorem dX13_nextStop_4 : decode cX13_nextStop 4 = .ok (.istore_n 1, 1) := by decide +kernel
theorem dX13_nextStop_5 : decode cX13_nextStop 5 = .ok (.aload_n 0, 1) := by decide +kernel
theorem dX13_nextStop_6 : decode cX13_nextStop 6 = .ok (.getfield 299, 3) := by decide +kernel
theorem dX13_nextStop_9 : decode cX13_nextStop 9 = .ok (.iconst 1, 1) := by decide +kernel
theorem dX13_nextStop_10 : decode cX13_nextStop 10 = .ok (.iadd, 1) := by decide +kernel
theorem dX13_nextStop_11 : decode cX13_nextStop 11 = .ok (.istore_n 2, 1) := by decide +kernel
theorem dX13_nextStop_12 : decode cX13_nextStop 12 = .ok (.iload_n 1, 1) := by decide +kernel
theorem dX13_nextStop_13 : decode cX13_nextStop 13 = .ok (.aload_n 0, 1) := by decide +kernel
theorem dX13_nextStop_14 : decode cX13_nextStop 14 = .ok (.getfield 13, 3) := by decide +kernel
theorem dX13_nextStop_17 : decode cX13_nextStop 17 = .ok (.if_icmp .ge 48, 3) := by decide +kernel
theorem dX13_nextStop_20 : decode cX13_nextStop 20 = .ok (.iload_n 2, 1) := by decide +kernel
theorem dX13_nextStop_21 : decode cX13_nextStop 21 = .ok (.aload_n 0, 1) := by decide +kernel
theorem dX13_nextStop_22 : decode cX13_nextStop 22 = .ok (.getfield 17, 3) := by decide +kernel
theorem dX13_nextStop_25 : decode cX13_nextStop 25 = .ok (.iload_n 1, 1) := by decide +kernel
theorem dX13_nextStop_26 : decode cX13_nextStop 26 = .ok (.iaload, 1) := by decide +kernel
theorem dX13_nextStop_27 : decode cX13_nextStop 27 = .ok (.if_icmp .lt 7, 3) := by decide +kernel
theorem dX13_nextStop_30 : decode cX13_nextStop 30 = .ok (.iload_n 2, 1) := by decide +kernel
theorem dX13_nextStop_31 : decode cX13_nextStop 31 = .ok (.ifCond .ne 26, 3) := by decide +kernel
theorem dX13_nextStop_34 : decode cX13_nextStop 34 = .ok (.aload_n 0, 1) := by decide +kernel
theorem dX13_nextStop_35 : decode cX13_nextStop 35 = .ok (.iload_n 1, 1) := by decide +kernel
theorem dX13_nextStop_36 : decode cX13_nextStop 36 = .ok (.iload_n 2, 1) := by decide +kernel
theorem dX13_nextStop_37 : decode cX13_nextStop 37 = .ok (.invokevirtual 302, 3) := by decide +kernel
theorem dX13_nextStop_40 : decode cX13_nextStop 40 = .ok (.ifCond .eq 11, 3) := by decide +kernel
theorem dX13_nextStop_43 : decode cX13_nextStop 43 = .ok (.aload_n 0, 1) := by decide +kernel
theorem dX13_nextStop_44 : decode cX13_nextStop 44 = .ok (.iload_n 1, 1) := by decide +kernel
theorem dX13_nextStop_45 : decode cX13_nextStop 45 = .ok (.iload_n 2, 1) := by decide +kernel
theorem dX13_nextStop_46 : decode cX13_nextStop 46 = .ok (.invokevirtual 306, 3) := by decide +kernel
theorem dX13_nextStop_49 : decode cX13_nextStop 49 = .ok (.iconst 1, 1) := by decide +kernel
theorem dX13_nextStop_50 : decode cX13_nextStop 50 = .ok (.ireturn, 1) := by decide +kernel
theorem dX13_nextStop_51 : decode cX13_nextStop 51 = .ok (.iinc 2 1, 3) := by decide +kernel
theorem dX13_nextStop_54 : decode cX13_nextStop 54 = .ok (.goto (-34), 3) := by decide +kernel
theorem dX13_nextStop_57 : decode cX13_nextStop 57 = .ok (.iinc 1 1, 3) := by decide +kernel
theorem dX13_nextStop_60 : decode cX13_nextStop 60 = .ok (.iconst 0, 1) := by decide +kernel
theorem dX13_nextStop_61 : decode cX13_nextStop 61 = .ok (.istore_n 2, 1) := by decide +kernel
theorem dX13_nextStop_62 : decode cX13_nextStop 62 = .ok (.goto (-50), 3) := by decide +kernel
theorem dX13_nextStop_65 : decode cX13_nextStop 65 = .ok (.iconst 0, 1) := by decide +kernel
theorem dX13_nextStop_66 : decode cX13_nextStop 66 = .ok (.ireturn, 1) := by decide +kernel
theorem kl13_198 : Cond.methodLink RX13 198 yX13_isIn ∈ e_tb := e_mem (i := 2837) (by decide +kernel) (by decide +kernel)
theorem kd13_isIn : Cond.code yX13_isIn cX13_isIn 3 (some .boolean) ∈ e_tb := e_mem (i := 2839) (by decide +kernel) (by decide +kernel)
theorem ks13_isIn : Cond.static yX13_isIn ∈ e_tb := e_mem (i := 2838) (by decide +kernel) (by decide +kernel)
theorem ki13 : Cond.initialized RX13 ∈ e_tb := e_mem (i := 296) (by decide +kernel) (by decide +kernel)
theorem kh13_isIn : yX13_isIn.cls ≠ "java/lang/invoke/MethodHandle" ∧ yX13_isIn.cls ≠ "java/lang/invoke/VarHandle" ∧ (parseMethodDescriptor yX13_isIn.desc).map (fun d => d.parameters.length) = some 3 := ⟨by decide +kernel, by decide +kernel, by decide +kernel⟩
theorem kl13_202 : Cond.methodLink RX13 202 yX13_isSign ∈ e_tb := e_mem (i := 2834) (by decide +kernel) (by decide +kernel)
theorem kd13_isSign : Cond.code yX13_isSign cX13_isSign 1 (some .boolean) ∈ e_tb := e_mem (i := 2836) (by decide +kernel) (by decide +kernel)
theorem ks13_isSign : Cond.static yX13_isSign ∈ e_tb := e_mem (i := 2835) (by decide +kernel) (by decide +kernel)
theorem kh13_isSign : yX13_isSign.cls ≠ "java/lang/invoke/MethodHandle" ∧ yX13_isSign.cls ≠ "java/lang/invoke/VarHandle" ∧ (parseMethodDescriptor yX13_isSign.desc).map (fun d => d.parameters.length) = some 1 := ⟨by decide +kernel, by decide +kernel, by decide +kernel⟩
theorem kf13_20 : Cond.fieldLink RX13 20 RX13 (TX13 4).2.1 (TX13 4).2.2.1 ∈ e_tb := e_mem (i := 2447) (by decide +kernel) (by decide +kernel)
theorem kf13_17 : Cond.fieldLink RX13 17 RX13 (TX13 3).2.1 (TX13 3).2.2.1 ∈ e_tb := e_mem (i := 2446) (by decide +kernel) (by decide +kernel)
theorem kl13_206 : Cond.methodLink RX13 206 yX13_at ∈ e_tb := e_mem (i := 2439) (by decide +kernel) (by decide +kernel)
theorem kd13_at : Cond.code yX13_at cX13_at 3 (some .int) ∈ e_tb := e_mem (i := 2442) (by decide +kernel) (by decide +kernel)
theorem ks13_at : Cond.instanceMethod yX13_at ∈ e_tb := e_mem (i := 2441) (by decide +kernel) (by decide +kernel)
theorem kv13_at : Cond.selects yX13_at.cls yX13_at yX13_at ∈ e_tb := e_mem (i := 89) (by decide +kernel) (by decide +kernel)
theorem kh13_at : yX13_at.cls ≠ "java/lang/invoke/MethodHandle" ∧ yX13_at.cls ≠ "java/lang/invoke/VarHandle" ∧ (parseMethodDescriptor yX13_at.desc).map (fun d => d.parameters.length) = some 2 := ⟨by decide +kernel, by decide +kernel, by decide +kernel⟩
theorem kl13_210 : Cond.methodLink RX13 210 yX13_greater ∈ e_tb := e_mem (i := 2954) (by decide +kernel) (by decide +kernel)
theorem kd13_greater : Cond.code yX13_greater cX13_greater 2 (some .int) ∈ e_tb := e_mem (i := 2956) (by decide +kernel) (by decide +kernel)
theorem ks13_greater : Cond.static yX13_greater ∈ e_tb := e_mem (i := 2955) (by decide +kernel) (by decide +kernel)
theorem kh13_greater : yX13_greater.cls ≠ "java/lang/invoke/MethodHandle" ∧ yX13_greater.cls ≠ "java/lang/invoke/VarHandle" ∧ (parseMethodDescriptor yX13_greater.desc).map (fun d => d.parameters.length) = some 2 := ⟨by decide +kernel, by decide +kernel, by decide +kernel⟩
theorem kf13_213 : Cond.fieldLink RX13 213 RX13 (TX13 5).2.1 (TX13 5).2.2.1 ∈ e_tb := e_mem (i := 2448) (by decide +kernel) (by decide +kernel)
theorem kf13_216 : Cond.fieldLink RX13 216 RX13 (TX13 6).2.1 (TX13 6).2.2.1 ∈ e_tb := e_mem (i := 2449) (by decide +kernel) (by decide +kernel)
theorem kf13_219 : Cond.fieldLink RX13 219 RX13 (TX13 7).2.1 (TX13 7).2.2.1 ∈ e_tb := e_mem (i := 2450) (by decide +kernel) (by decide +kernel)
theorem kl13_222 : Cond.methodLink RX13 222 yX13_indent ∈ e_tb := e_mem (i := 3144) (by decide +kernel) (by decide +kernel)
theorem kd13_indent : Cond.code yX13_indent cX13_indent 3 (some .int) ∈ e_tb := e_mem (i := 3147) (by decide +kernel) (by decide +kernel)
theorem ks13_indent : Cond.instanceMethod yX13_indent ∈ e_tb := e_mem (i := 3146) (by decide +kernel) (by decide +kernel)
theorem kv13_indent : Cond.selects yX13_indent.cls yX13_indent yX13_indent ∈ e_tb := e_mem (i := 158) (by decide +kernel) (by decide +kernel)
theorem kh13_indent : yX13_indent.cls ≠ "java/lang/invoke/MethodHandle" ∧ yX13_indent.cls ≠ "java/lang/invoke/VarHandle" ∧ (parseMethodDescriptor yX13_indent.desc).map (fun d => d.parameters.length) = some 1 := ⟨by decide +kernel, by decide +kernel, by decide +kernel⟩
theorem kl13_226 : Cond.methodLink RX13 226 yX13_goes ∈ e_tb := e_mem (i := 2852) (by decide +kernel) (by decide +kernel)
theorem kd13_goes : Cond.code yX13_goes cX13_goes 3 none ∈ e_tb := e_mem (i := 2855) (by decide +kernel) (by decide +kernel)
theorem ks13_goes : Cond.instanceMethod yX13_goes ∈ e_tb := e_mem (i := 2854) (by decide +kernel) (by decide +kernel)
theorem kv13_goes : Cond.selects yX13_goes.cls yX13_goes yX13_goes ∈ e_tb := e_mem (i := 92) (by decide +kernel) (by decide +kernel)
theorem kh13_goes : yX13_goes.cls ≠ "java/lang/invoke/MethodHandle" ∧ yX13_goes.cls ≠ "java/lang/invoke/VarHandle" ∧ (parseMethodDescriptor yX13_goes.desc).map (fun d => d.parameters.length) = some 2 := ⟨by decide +kernel, by decide +kernel, by decide +kernel⟩
theorem kf13_237 : Cond.fieldLink RX13 237 RX13 (TX13 20).2.1 (TX13 20).2.2.1 ∈ e_tb := e_mem (i := 2463) (by decide +kernel) (by decide +kernel)
theorem kf13_51 : Cond.fieldLink RX13 51 RX13 (TX13 22).2.1 (TX13 22).2.2.1 ∈ e_tb := e_mem (i := 2465) (by decide +kernel) (by decide +kernel)
theorem kl13_287 : Cond.methodLink RX13 287 yX13_closedAt ∈ e_tb := e_mem (i := 2968) (by decide +kernel) (by decide +kernel)
theorem kd13_closedAt : Cond.code yX13_closedAt cX13_closedAt 5 (some .int) ∈ e_tb := e_mem (i := 2971) (by decide +kernel) (by decide +kernel)
theorem ks13_closedAt : Cond.instanceMethod yX13_closedAt ∈ e_tb := e_mem (i := 2970) (by decide +kernel) (by decide +kernel)
theorem kv13_closedAt : Cond.selects yX13_closedAt.cls yX13_closedAt yX13_closedAt ∈ e_tb := e_mem (i := 117) (by decide +kernel) (by decide +kernel)
theorem kh13_closedAt : yX13_closedAt.cls ≠ "java/lang/invoke/MethodHandle" ∧ yX13_closedAt.cls ≠ "java/lang/invoke/VarHandle" ∧ (parseMethodDescriptor yX13_closedAt.desc).map (fun d => d.parameters.length) = some 1 := ⟨by decide +kernel, by decide +kernel, by decide +kernel⟩
theorem kl13_290 : Cond.methodLink RX13 290 yX13_classOf ∈ e_tb := e_mem (i := 3283) (by decide +kernel) (by decide +kernel)
theorem kd13_classOf : Cond.code yX13_classOf cX13_classOf 1 (some .int) ∈ e_tb := e_mem (i := 3285) (by decide +kernel) (by decide +kernel)
theorem ks13_classOf : Cond.static yX13_classOf ∈ e_tb := e_mem (i := 3284) (by decide +kernel) (by decide +kernel)
theorem kh13_classOf : yX13_classOf.cls ≠ "java/lang/invoke/MethodHandle" ∧ yX13_classOf.cls ≠ "java/lang/invoke/VarHandle" ∧ (parseMethodDescriptor yX13_classOf.desc).map (fun d => d.parameters.length) = some 1 := ⟨by decide +kernel, by decide +kernel, by decide +kernel⟩
theorem kl13_293 : Cond.methodLink RX13 293 yX13_classAt ∈ e_tb := e_mem (i := 3279) (by decide +kernel) (by decide +kernel)
theorem kd13_classAt : Cond.code yX13_classAt cX13_classAt 3 (some .int) ∈ e_tb := e_mem (i := 3282) (by decide +kernel) (by decide +kernel)
theorem ks13_classAt : Cond.instanceMethod yX13_classAt ∈ e_tb := e_mem (i := 3281) (by decide +kernel) (by decide +kernel)
theorem kv13_classAt : Cond.selects yX13_classAt.cls yX13_classAt yX13_classAt ∈ e_tb := e_mem (i := 188) (by decide +kernel) (by decide +kernel)
theorem kh13_classAt : yX13_classAt.cls ≠ "java/lang/invoke/MethodHandle" ∧ yX13_classAt.cls ≠ "java/lang/invoke/VarHandle" ∧ (parseMethodDescriptor yX13_classAt.desc).map (fun d => d.parameters.length) = some 2 := ⟨by decide +kernel, by decide +kernel, by decide +kernel⟩
theorem kf13_296 : Cond.fieldLink RX13 296 RX13 (TX13 46).2.1 (TX13 46).2.2.1 ∈ e_tb := e_mem (i := 2489) (by decide +kernel) (by decide +kernel)
theorem kf13_299 : Cond.fieldLink RX13 299 RX13 (TX13 47).2.1 (TX13 47).2.2.1 ∈ e_tb := e_mem (i := 2490) (by decide +kernel) (by decide +kernel)
theorem kf13_13 : Cond.fieldLink RX13 13 RX13 (TX13 2).2.1 (TX13 2).2.2.1 ∈ e_tb := e_mem (i := 2445) (by decide +kernel) (by decide +kernel)
theorem kl13_302 : Cond.methodLink RX13 302 yX13_isStop ∈ e_tb := e_mem (i := 3377) (by decide +kernel) (by decide +kernel)
theorem kd13_isStop : Cond.code yX13_isStop cX13_isStop 4 (some .boolean) ∈ e_tb := e_mem (i := 3380) (by decide +kernel) (by decide +kernel)
theorem ks13_isStop : Cond.instanceMethod yX13_isStop ∈ e_tb := e_mem (i := 3379) (by decide +kernel) (by decide +kernel)
theorem kv13_isStop : Cond.selects yX13_isStop.cls yX13_isStop yX13_isStop ∈ e_tb := e_mem (i := 211) (by decide +kernel) (by decide +kernel)
theorem kh13_isStop : yX13_isStop.cls ≠ "java/lang/invoke/MethodHandle" ∧ yX13_isStop.cls ≠ "java/lang/invoke/VarHandle" ∧ (parseMethodDescriptor yX13_isStop.desc).map (fun d => d.parameters.length) = some 2 := ⟨by decide +kernel, by decide +kernel, by decide +kernel⟩
theorem kl13_306 : Cond.methodLink RX13 306 yX13_reaches ∈ e_tb := e_mem (i := 3302) (by decide +kernel) (by decide +kernel)
theorem kd13_reaches : Cond.code yX13_reaches cX13_reaches 3 none ∈ e_tb := e_mem (i := 3305) (by decide +kernel) (by decide +kernel)
theorem ks13_reaches : Cond.instanceMethod yX13_reaches ∈ e_tb := e_mem (i := 3304) (by decide +kernel) (by decide +kernel)
theorem kv13_reaches : Cond.selects yX13_reaches.cls yX13_reaches yX13_reaches ∈ e_tb := e_mem (i := 193) (by decide +kernel) (by decide +kernel)
theorem kh13_reaches : yX13_reaches.cls ≠ "java/lang/invoke/MethodHandle" ∧ yX13_reaches.cls ≠ "java/lang/invoke/VarHandle" ∧ (parseMethodDescriptor yX13_reaches.desc).map (fun d => d.parameters.length) = some 2 := ⟨by decide +kernel, by decide +kernel, by decide +kernel⟩
theorem in_X13 : ∀ w ∈ u_ws RX13 TX13 126, w ∈ e_tb := e_uin [2569, 2571, 2573, 2575, 2577, 2579, 2581, 2583, 2585, 2587, 2589, 2591, 2593, 2595, 2597, 2599, 2601, 2603, 2605, 2607, 2609, 2611, 2613, 2615, 2617, 2619, 2621, 2623, 2625, 2627, 2629, 2631, 2633, 2635, 2637, 2639, 2641, 2643, 2645, 2647, 2649, 2651, 2653, 2655, 2657, 2659, 2661, 2663, 2665, 2667, 2669, 2671, 2673, 2675, 2677, 2679, 2681, 2683, 2685, 2687, 2689, 2691, 2693, 2695, 2697, 2699, 2701, 2703, 2705, 2707, 2709, 2711, 2713, 2715, 2717, 2719, 2721, 2723, 2725, 2727, 2729, 2731, 2733, 2735, 2737, 2739, 2741, 2743, 2745, 2747, 2749, 2751, 2753, 2755, 2757, 2759, 2761, 2763, 2765, 2767, 2769, 2771, 2773, 2775, 2777, 2779, 2781, 2783, 2785, 2787, 2789, 2791, 2793, 2795, 2797, 2799, 2801, 2803, 2805, 2807, 2809, 2811, 2813, 2815, 2817, 2819] (by decide +kernel) (by decide +kernel)

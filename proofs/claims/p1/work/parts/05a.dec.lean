theorem dX13_thrown_0 : decode cX13_thrown 0 = .ok (.aload_n 0, 1) := by decide +kernel
theorem dX13_thrown_1 : decode cX13_thrown 1 = .ok (.getfield 195, 3) := by decide +kernel
theorem dX13_thrown_4 : decode cX13_thrown 4 = .ok (.ireturn, 1) := by decide +kernel
theorem dX13_can_0 : decode cX13_can 0 = .ok (.aload_n 0, 1) := by decide +kernel
theorem dX13_can_1 : decode cX13_can 1 = .ok (.iload_n 1, 1) := by decide +kernel
theorem dX13_can_2 : decode cX13_can 2 = .ok (.putfield 195, 3) := by decide +kernel
theorem dX13_can_5 : decode cX13_can 5 = .ok (.iload_n 1, 1) := by decide +kernel
theorem dX13_can_6 : decode cX13_can 6 = .ok (.ifCond .ne 7, 3) := by decide +kernel
theorem dX13_can_9 : decode cX13_can 9 = .ok (.iconst 1, 1) := by decide +kernel
theorem dX13_can_10 : decode cX13_can 10 = .ok (.goto 4, 3) := by decide +kernel
theorem dX13_can_13 : decode cX13_can 13 = .ok (.iconst 0, 1) := by decide +kernel
theorem dX13_can_14 : decode cX13_can 14 = .ok (.ireturn, 1) := by decide +kernel
theorem dX13_isIn_0 : decode cX13_isIn 0 = .ok (.iload_n 0, 1) := by decide +kernel
theorem dX13_isIn_1 : decode cX13_isIn 1 = .ok (.iload_n 1, 1) := by decide +kernel
theorem dX13_isIn_2 : decode cX13_isIn 2 = .ok (.if_icmp .lt 12, 3) := by decide +kernel
theorem dX13_isIn_5 : decode cX13_isIn 5 = .ok (.iload_n 0, 1) := by decide +kernel
theorem dX13_isIn_6 : decode cX13_isIn 6 = .ok (.iload_n 2, 1) := by decide +kernel
theorem dX13_isIn_7 : decode cX13_isIn 7 = .ok (.if_icmp .gt 7, 3) := by decide +kernel
theorem dX13_isIn_10 : decode cX13_isIn 10 = .ok (.iconst 1, 1) := by decide +kernel
theorem dX13_isIn_11 : decode cX13_isIn 11 = .ok (.goto 4, 3) := by decide +kernel
theorem dX13_isIn_14 : decode cX13_isIn 14 = .ok (.iconst 0, 1) := by decide +kernel
theorem dX13_isIn_15 : decode cX13_isIn 15 = .ok (.ireturn, 1) := by decide +kernel
theorem dX13_lesser_0 : decode cX13_lesser 0 = .ok (.iload_n 0, 1) := by decide +kernel
theorem dX13_lesser_1 : decode cX13_lesser 1 = .ok (.iload_n 1, 1) := by decide +kernel
theorem dX13_lesser_2 : decode cX13_lesser 2 = .ok (.if_icmp .ge 7, 3) := by decide +kernel
theorem dX13_lesser_5 : decode cX13_lesser 5 = .ok (.iload_n 0, 1) := by decide +kernel
theorem dX13_lesser_6 : decode cX13_lesser 6 = .ok (.goto 4, 3) := by decide +kernel
theorem dX13_lesser_9 : decode cX13_lesser 9 = .ok (.iload_n 1, 1) := by decide +kernel
theorem dX13_lesser_10 : decode cX13_lesser 10 = .ok (.ireturn, 1) := by decide +kernel
theorem dX13_greater_0 : decode cX13_greater 0 = .ok (.iload_n 0, 1) := by decide +kernel
theorem dX13_greater_1 : decode cX13_greater 1 = .ok (.iload_n 1, 1) := by decide +kernel
theorem dX13_greater_2 : decode cX13_greater 2 = .ok (.if_icmp .le 7, 3) := by decide +kernel
theorem dX13_greater_5 : decode cX13_greater 5 = .ok (.iload_n 0, 1) := by decide +kernel
theorem dX13_greater_6 : decode cX13_greater 6 = .ok (.goto 4, 3) := by decide +kernel
theorem dX13_greater_9 : decode cX13_greater 9 = .ok (.iload_n 1, 1) := by decide +kernel
theorem dX13_greater_10 : decode cX13_greater 10 = .ok (.ireturn, 1) := by decide +kernel
theorem dX13_isSign_0 : decode cX13_isSign 0 = .ok (.iload_n 0, 1) := by decide +kernel
theorem dX13_isSign_1 : decode cX13_isSign 1 = .ok (.bipush 32, 2) := by decide +kernel
theorem dX13_isSign_3 : decode cX13_isSign 3 = .ok (.bipush 126, 2) := by decide +kernel
theorem dX13_isSign_5 : decode cX13_isSign 5 = .ok (.invokestatic 198, 3) := by decide +kernel
theorem dX13_isSign_8 : decode cX13_isSign 8 = .ok (.ireturn, 1) := by decide +kernel
theorem dX13_isKey_0 : decode cX13_isKey 0 = .ok (.iload_n 0, 1) := by decide +kernel
theorem dX13_isKey_1 : decode cX13_isKey 1 = .ok (.invokestatic 202, 3) := by decide +kernel
theorem dX13_isKey_4 : decode cX13_isKey 4 = .ok (.ifCond .ne 45, 3) := by decide +kernel
theorem dX13_isKey_7 : decode cX13_isKey 7 = .ok (.iload_n 0, 1) := by decide +kernel
theorem dX13_isKey_8 : decode cX13_isKey 8 = .ok (.bipush 8, 2) := by decide +kernel
theorem dX13_isKey_10 : decode cX13_isKey 10 = .ok (.if_icmp .eq 39, 3) := by decide +kernel
theorem dX13_isKey_13 : decode cX13_isKey 13 = .ok (.iload_n 0, 1) := by decide +kernel
theorem dX13_isKey_14 : decode cX13_isKey 14 = .ok (.bipush 9, 2) := by decide +kernel
theorem dX13_isKey_16 : decode cX13_isKey 16 = .ok (.if_icmp .eq 33, 3) := by decide +kernel
theorem dX13_isKey_19 : decode cX13_isKey 19 = .ok (.iload_n 0, 1) := by decide +kernel
theorem dX13_isKey_20 : decode cX13_isKey 20 = .ok (.bipush 13, 2) := by decide +kernel
theorem dX13_isKey_22 : decode cX13_isKey 22 = .ok (.if_icmp .eq 27, 3) := by decide +kernel
theorem dX13_isKey_25 : decode cX13_isKey 25 = .ok (.iload_n 0, 1) := by decide +kernel
theorem dX13_isKey_26 : decode cX13_isKey 26 = .ok (.bipush 15, 2) := by decide +kernel
theorem dX13_isKey_28 : decode cX13_isKey 28 = .ok (.if_icmp .eq 21, 3) := by decide +kernel
theorem dX13_isKey_31 : decode cX13_isKey 31 = .ok (.iload_n 0, 1) := by decide +kernel
theorem dX13_isKey_32 : decode cX13_isKey 32 = .ok (.bipush 18, 2) := by decide +kernel
theorem dX13_isKey_34 : decode cX13_isKey 34 = .ok (.if_icmp .eq 15, 3) := by decide +kernel
theorem dX13_isKey_37 : decode cX13_isKey 37 = .ok (.iload_n 0, 1) := by decide +kernel
theorem dX13_isKey_38 : decode cX13_isKey 38 = .ok (.bipush 22, 2) := by decide +kernel
theorem dX13_isKey_40 : decode cX13_isKey 40 = .ok (.if_icmp .eq 9, 3) := by decide +kernel
theorem dX13_isKey_43 : decode cX13_isKey 43 = .ok (.iload_n 0, 1) := by decide +kernel
theorem dX13_isKey_44 : decode cX13_isKey 44 = .ok (.bipush 27, 2) := by decide +kernel
theorem dX13_isKey_46 : decode cX13_isKey 46 = .ok (.if_icmp .ne 7, 3) := by decide +kernel
theorem dX13_isKey_49 : decode cX13_isKey 49 = .ok (.iconst 1, 1) := by decide +kernel
theorem dX13_isKey_50 : decode cX13_isKey 50 = .ok (.goto 4, 3) := by decide +kernel
theorem dX13_isKey_53 : decode cX13_isKey 53 = .ok (.iconst 0, 1) := by decide +kernel
theorem dX13_isKey_54 : decode cX13_isKey 54 = .ok (.ireturn, 1) := by decide +kernel
theorem dX13_at_0 : decode cX13_at 0 = .ok (.aload_n 0, 1) := by decide +kernel
theorem dX13_at_1 : decode cX13_at 1 = .ok (.getfield 20, 3) := by decide +kernel
theorem dX13_at_4 : decode cX13_at 4 = .ok (.bipush 60, 2) := by decide +kernel
theorem dX13_at_6 : decode cX13_at 6 = .ok (.iload_n 1, 1) := by decide +kernel
theorem dX13_at_7 : decode cX13_at 7 = .ok (.imul, 1) := by decide +kernel
theorem dX13_at_8 : decode cX13_at 8 = .ok (.iload_n 2, 1) := by decide +kernel
theorem dX13_at_9 : decode cX13_at 9 = .ok (.iadd, 1) := by decide +kernel
theorem dX13_at_10 : decode cX13_at 10 = .ok (.iaload, 1) := by decide +kernel
theorem dX13_at_11 : decode cX13_at 11 = .ok (.ireturn, 1) := by decide +kernel
theorem dX13_copiesLine_0 : decode cX13_copiesLine 0 = .ok (.aload_n 0, 1) := by decide +kernel
theorem dX13_copiesLine_1 : decode cX13_copiesLine 1 = .ok (.getfield 17, 3) := by decide +kernel
theorem dX13_copiesLine_4 : decode cX13_copiesLine 4 = .ok (.iload_n 2, 1) := by decide +kernel
theorem dX13_copiesLine_5 : decode cX13_copiesLine 5 = .ok (.aload_n 0, 1) := by decide +kernel
theorem dX13_copiesLine_6 : decode cX13_copiesLine 6 = .ok (.getfield 17, 3) := by decide +kernel
theorem dX13_copiesLine_9 : decode cX13_copiesLine 9 = .ok (.iload_n 1, 1) := by decide +kernel
theorem dX13_copiesLine_10 : decode cX13_copiesLine 10 = .ok (.iaload, 1) := by decide +kernel
theorem dX13_copiesLine_11 : decode cX13_copiesLine 11 = .ok (.iastore, 1) := by decide +kernel
theorem dX13_copiesLine_12 : decode cX13_copiesLine 12 = .ok (.iconst 0, 1) := by decide +kernel
theorem dX13_copiesLine_13 : decode cX13_copiesLine 13 = .ok (.istore_n 3, 1) := by decide +kernel
theorem dX13_copiesLine_14 : decode cX13_copiesLine 14 = .ok (.iload_n 3, 1) := by decide +kernel
theorem dX13_copiesLine_15 : decode cX13_copiesLine 15 = .ok (.aload_n 0, 1) := by decide +kernel
theorem dX13_copiesLine_16 : decode cX13_copiesLine 16 = .ok (.getfield 17, 3) := by decide +kernel
theorem dX13_copiesLine_19 : decode cX13_copiesLine 19 = .ok (.iload_n 1, 1) := by decide +kernel
theorem dX13_copiesLine_20 : decode cX13_copiesLine 20 = .ok (.iaload, 1) := by decide +kernel
theorem dX13_copiesLine_21 : decode cX13_copiesLine 21 = .ok (.if_icmp .ge 31, 3) := by decide +kernel
theorem dX13_copiesLine_24 : decode cX13_copiesLine 24 = .ok (.aload_n 0, 1) := by decide +kernel
theorem dX13_copiesLine_25 : decode cX13_copiesLine 25 = .ok (.getfield 20, 3) := by decide +kernel
theorem dX13_copiesLine_28 : decode cX13_copiesLine 28 = .ok (.bipush 60, 2) := by decide +kernel
theorem dX13_copiesLine_30 : decode cX13_copiesLine 30 = .ok (.iload_n 2, 1) := by decide +kernel
theorem dX13_copiesLine_31 : decode cX13_copiesLine 31 = .ok (.imul, 1) := by decide +kernel
theorem dX13_copiesLine_32 : decode cX13_copiesLine 32 = .ok (.iload_n 3, 1) := by decide +kernel
theorem dX13_copiesLine_33 : decode cX13_copiesLine 33 = .ok (.iadd, 1) := by decide +kernel
theorem dX13_copiesLine_34 : decode cX13_copiesLine 34 = .ok (.aload_n 0, 1) := by decide +kernel
theorem dX13_copiesLine_35 : decode cX13_copiesLine 35 = .ok (.getfield 20, 3) := by decide +kernel
theorem dX13_copiesLine_38 : decode cX13_copiesLine 38 = .ok (.bipush 60, 2) := by decide +kernel
theorem dX13_copiesLine_40 : decode cX13_copiesLine 40 = .ok (.iload_n 1, 1) := by decide +kernel
theorem dX13_copiesLine_41 : decode cX13_copiesLine 41 = .ok (.imul, 1) := by decide +kernel
theorem dX13_copiesLine_42 : decode cX13_copiesLine 42 = .ok (.iload_n 3, 1) := by decide +kernel
theorem dX13_copiesLine_43 : decode cX13_copiesLine 43 = .ok (.iadd, 1) := by decide +kernel
theorem dX13_copiesLine_44 : decode cX13_copiesLine 44 = .ok (.iaload, 1) := by decide +kernel
theorem dX13_copiesLine_45 : decode cX13_copiesLine 45 = .ok (.iastore, 1) := by decide +kernel
theorem dX13_copiesLine_46 : decode cX13_copiesLine 46 = .ok (.iinc 3 1, 3) := by decide +kernel
theorem dX13_copiesLine_49 : decode cX13_copiesLine 49 = .ok (.goto (-35), 3) := by decide +kernel
theorem dX13_copiesLine_52 : decode cX13_copiesLine 52 = .ok (.return_, 1) := by decide +kernel
theorem dX13_indent_0 : decode cX13_indent 0 = .ok (.iconst 0, 1) := by decide +kernel
theorem dX13_indent_1 : decode cX13_indent 1 = .ok (.istore_n 2, 1) := by decide +kernel
theorem dX13_indent_2 : decode cX13_indent 2 = .ok (.iload_n 2, 1) := by decide +kernel
theorem dX13_indent_3 : decode cX13_indent 3 = .ok (.aload_n 0, 1) := by decide +kernel
theorem dX13_indent_4 : decode cX13_indent 4 = .ok (.getfield 17, 3) := by decide +kernel
theorem dX13_indent_7 : decode cX13_indent 7 = .ok (.iload_n 1, 1) := by decide +kernel
theorem dX13_indent_8 : decode cX13_indent 8 = .ok (.iaload, 1) := by decide +kernel
theorem dX13_indent_9 : decode cX13_indent 9 = .ok (.if_icmp .ge 20, 3) := by decide +kernel
theorem dX13_indent_12 : decode cX13_indent 12 = .ok (.aload_n 0, 1) := by decide +kernel
theorem dX13_indent_13 : decode cX13_indent 13 = .ok (.iload_n 1, 1) := by decide +kernel
theorem dX13_indent_14 : decode cX13_indent 14 = .ok (.iload_n 2, 1) := by decide +kernel
theorem dX13_indent_15 : decode cX13_indent 15 = .ok (.invokevirtual 206, 3) := by decide +kernel
theorem dX13_indent_18 : decode cX13_indent 18 = .ok (.bipush 32, 2) := by decide +kernel
theorem dX13_indent_20 : decode cX13_indent 20 = .ok (.if_icmp .ne 9, 3) := by decide +kernel
theorem dX13_indent_23 : decode cX13_indent 23 = .ok (.iinc 2 1, 3) := by decide +kernel
theorem dX13_indent_26 : decode cX13_indent 26 = .ok (.goto (-24), 3) := by decide +kernel
theorem dX13_indent_29 : decode cX13_indent 29 = .ok (.iload_n 2, 1) := by decide +kernel
theorem dX13_indent_30 : decode cX13_indent 30 = .ok (.aload_n 0, 1) := by decide +kernel
theorem dX13_indent_31 : decode cX13_indent 31 = .ok (.getfield 17, 3) := by decide +kernel
theorem dX13_indent_34 : decode cX13_indent 34 = .ok (.iload_n 1, 1) := by decide +kernel
theorem dX13_indent_35 : decode cX13_indent 35 = .ok (.iaload, 1) := by decide +kernel
theorem dX13_indent_36 : decode cX13_indent 36 = .ok (.if_icmp .ne 13, 3) := by decide +kernel
theorem dX13_indent_39 : decode cX13_indent 39 = .ok (.iconst 0, 1) := by decide +kernel
theorem dX13_indent_40 : decode cX13_indent 40 = .ok (.iload_n 2, 1) := by decide +kernel
theorem dX13_indent_41 : decode cX13_indent 41 = .ok (.iconst 1, 1) := by decide +kernel
theorem dX13_indent_42 : decode cX13_indent 42 = .ok (.isub, 1) := by decide +kernel
theorem dX13_indent_43 : decode cX13_indent 43 = .ok (.invokestatic 210, 3) := by decide +kernel
theorem dX13_indent_46 : decode cX13_indent 46 = .ok (.goto 4, 3) := by decide +kernel
theorem dX13_indent_49 : decode cX13_indent 49 = .ok (.iload_n 2, 1) := by decide +kernel
theorem dX13_indent_50 : decode cX13_indent 50 = .ok (.ireturn, 1) := by decide +kernel
theorem dX13_lastOf_0 : decode cX13_lastOf 0 = .ok (.iconst 0, 1) := by decide +kernel
theorem dX13_lastOf_1 : decode cX13_lastOf 1 = .ok (.aload_n 0, 1) := by decide +kernel
theorem dX13_lastOf_2 : decode cX13_lastOf 2 = .ok (.getfield 17, 3) := by decide +kernel
theorem dX13_lastOf_5 : decode cX13_lastOf 5 = .ok (.iload_n 1, 1) := by decide +kernel
theorem dX13_lastOf_6 : decode cX13_lastOf 6 = .ok (.iaload, 1) := by decide +kernel
theorem dX13_lastOf_7 : decode cX13_lastOf 7 = .ok (.iconst 1, 1) := by decide +kernel
theorem dX13_lastOf_8 : decode cX13_lastOf 8 = .ok (.isub, 1) := by decide +kernel
theorem dX13_lastOf_9 : decode cX13_lastOf 9 = .ok (.invokestatic 210, 3) := by decide +kernel
theorem dX13_lastOf_12 : decode cX13_lastOf 12 = .ok (.ireturn, 1) := by decide +kernel
theorem dX13_goes_0 : decode cX13_goes 0 = .ok (.aload_n 0, 1) := by decide +kernel
theorem dX13_goes_1 : decode cX13_goes 1 = .ok (.iload_n 1, 1) := by decide +kernel
theorem dX13_goes_2 : decode cX13_goes 2 = .ok (.putfield 213, 3) := by decide +kernel
theorem dX13_goes_5 : decode cX13_goes 5 = .ok (.aload_n 0, 1) := by decide +kernel
theorem dX13_goes_6 : decode cX13_goes 6 = .ok (.iload_n 2, 1) := by decide +kernel
theorem dX13_goes_7 : decode cX13_goes 7 = .ok (.putfield 216, 3) := by decide +kernel
theorem dX13_goes_10 : decode cX13_goes 10 = .ok (.aload_n 0, 1) := by decide +kernel
theorem dX13_goes_11 : decode cX13_goes 11 = .ok (.iload_n 2, 1) := by decide +kernel
theorem dX13_goes_12 : decode cX13_goes 12 = .ok (.putfield 219, 3) := by decide +kernel
theorem dX13_goes_15 : decode cX13_goes 15 = .ok (.return_, 1) := by decide +kernel
theorem dX13_goesTo_0 : decode cX13_goesTo 0 = .ok (.aload_n 0, 1) := by decide +kernel
theorem dX13_goesTo_1 : decode cX13_goesTo 1 = .ok (.iload_n 1, 1) := by decide +kernel
theorem dX13_goesTo_2 : decode cX13_goesTo 2 = .ok (.aload_n 0, 1) := by decide +kernel
theorem dX13_goesTo_3 : decode cX13_goesTo 3 = .ok (.iload_n 1, 1) := by decide +kernel
theorem dX13_goesTo_4 : decode cX13_goesTo 4 = .ok (.invokevirtual 222, 3) := by decide +kernel
theorem dX13_goesTo_7 : decode cX13_goesTo 7 = .ok (.invokevirtual 226, 3) := by decide +kernel
theorem dX13_goesTo_10 : decode cX13_goesTo 10 = .ok (.return_, 1) := by decide +kernel
theorem dX13_behind_0 : decode cX13_behind 0 = .ok (.iload_n 0, 1) := by decide +kernel
theorem dX13_behind_1 : decode cX13_behind 1 = .ok (.iload_n 1, 1) := by decide +kernel
theorem dX13_behind_2 : decode cX13_behind 2 = .ok (.if_icmp .lt 9, 3) := by decide +kernel
theorem dX13_behind_5 : decode cX13_behind 5 = .ok (.iload_n 0, 1) := by decide +kernel
theorem dX13_behind_6 : decode cX13_behind 6 = .ok (.iload_n 2, 1) := by decide +kernel
theorem dX13_behind_7 : decode cX13_behind 7 = .ok (.iadd, 1) := by decide +kernel
theorem dX13_behind_8 : decode cX13_behind 8 = .ok (.goto 4, 3) := by decide +kernel
theorem dX13_behind_11 : decode cX13_behind 11 = .ok (.iload_n 0, 1) := by decide +kernel
theorem dX13_behind_12 : decode cX13_behind 12 = .ok (.ireturn, 1) := by decide +kernel
theorem dX13_linesIn_0 : decode cX13_linesIn 0 = .ok (.iconst 0, 1) := by decide +kernel
theorem dX13_linesIn_1 : decode cX13_linesIn 1 = .ok (.istore_n 3, 1) := by decide +kernel
theorem dX13_linesIn_2 : decode cX13_linesIn 2 = .ok (.iload_n 3, 1) := by decide +kernel
theorem dX13_linesIn_3 : decode cX13_linesIn 3 = .ok (.bipush 26, 2) := by decide +kernel
theorem dX13_linesIn_5 : decode cX13_linesIn 5 = .ok (.if_icmp .ge 26, 3) := by decide +kernel
theorem dX13_linesIn_8 : decode cX13_linesIn 8 = .ok (.aload_n 0, 1) := by decide +kernel
theorem dX13_linesIn_9 : decode cX13_linesIn 9 = .ok (.getfield 33, 3) := by decide +kernel
theorem dX13_linesIn_12 : decode cX13_linesIn 12 = .ok (.iload_n 3, 1) := by decide +kernel
theorem dX13_linesIn_13 : decode cX13_linesIn 13 = .ok (.aload_n 0, 1) := by decide +kernel
theorem dX13_linesIn_14 : decode cX13_linesIn 14 = .ok (.getfield 33, 3) := by decide +kernel
theorem dX13_linesIn_17 : decode cX13_linesIn 17 = .ok (.iload_n 3, 1) := by decide +kernel
theorem dX13_linesIn_18 : decode cX13_linesIn 18 = .ok (.iaload, 1) := by decide +kernel
theorem dX13_linesIn_19 : decode cX13_linesIn 19 = .ok (.iload_n 1, 1) := by decide +kernel
theorem dX13_linesIn_20 : decode cX13_linesIn 20 = .ok (.iload_n 2, 1) := by decide +kernel
theorem dX13_linesIn_21 : decode cX13_linesIn 21 = .ok (.invokestatic 230, 3) := by decide +kernel
theorem dX13_linesIn_24 : decode cX13_linesIn 24 = .ok (.iastore, 1) := by decide +kernel
theorem dX13_linesIn_25 : decode cX13_linesIn 25 = .ok (.iinc 3 1, 3) := by decide +kernel
theorem dX13_linesIn_28 : decode cX13_linesIn 28 = .ok (.goto (-26), 3) := by decide +kernel
theorem dX13_linesIn_31 : decode cX13_linesIn 31 = .ok (.iconst 0, 1) := by decide +kernel
theorem dX13_linesIn_32 : decode cX13_linesIn 32 = .ok (.istore_n 3, 1) := by decide +kernel
theorem dX13_linesIn_33 : decode cX13_linesIn 33 = .ok (.iload_n 3, 1) := by decide +kernel
theorem dX13_linesIn_34 : decode cX13_linesIn 34 = .ok (.aload_n 0, 1) := by decide +kernel
theorem dX13_linesIn_35 : decode cX13_linesIn 35 = .ok (.getfield 234, 3) := by decide +kernel
theorem dX13_linesIn_38 : decode cX13_linesIn 38 = .ok (.if_icmp .ge 26, 3) := by decide +kernel
theorem dX13_linesIn_41 : decode cX13_linesIn 41 = .ok (.aload_n 0, 1) := by decide +kernel
theorem dX13_linesIn_42 : decode cX13_linesIn 42 = .ok (.getfield 39, 3) := by decide +kernel
theorem dX13_linesIn_45 : decode cX13_linesIn 45 = .ok (.iload_n 3, 1) := by decide +kernel
theorem dX13_linesIn_46 : decode cX13_linesIn 46 = .ok (.aload_n 0, 1) := by decide +kernel
theorem dX13_linesIn_47 : decode cX13_linesIn 47 = .ok (.getfield 39, 3) := by decide +kernel
theorem dX13_linesIn_50 : decode cX13_linesIn 50 = .ok (.iload_n 3, 1) := by decide +kernel
theorem dX13_linesIn_51 : decode cX13_linesIn 51 = .ok (.iaload, 1) := by decide +kernel
theorem dX13_linesIn_52 : decode cX13_linesIn 52 = .ok (.iload_n 1, 1) := by decide +kernel
theorem dX13_linesIn_53 : decode cX13_linesIn 53 = .ok (.iload_n 2, 1) := by decide +kernel
theorem dX13_linesIn_54 : decode cX13_linesIn 54 = .ok (.invokestatic 230, 3) := by decide +kernel
theorem dX13_linesIn_57 : decode cX13_linesIn 57 = .ok (.iastore, 1) := by decide +kernel
theorem dX13_linesIn_58 : decode cX13_linesIn 58 = .ok (.iinc 3 1, 3) := by decide +kernel
theorem dX13_linesIn_61 : decode cX13_linesIn 61 = .ok (.goto (-28), 3) := by decide +kernel
theorem dX13_linesIn_64 : decode cX13_linesIn 64 = .ok (.sipush 1599, 3) := by decide +kernel
theorem dX13_linesIn_67 : decode cX13_linesIn 67 = .ok (.istore_n 3, 1) := by decide +kernel
theorem dX13_linesIn_68 : decode cX13_linesIn 68 = .ok (.iload_n 3, 1) := by decide +kernel
theorem dX13_linesIn_69 : decode cX13_linesIn 69 = .ok (.ifCond .lt 80, 3) := by decide +kernel
theorem dX13_linesIn_72 : decode cX13_linesIn 72 = .ok (.aload_n 0, 1) := by decide +kernel
theorem dX13_linesIn_73 : decode cX13_linesIn 73 = .ok (.getfield 237, 3) := by decide +kernel
theorem dX13_linesIn_76 : decode cX13_linesIn 76 = .ok (.ifCond .le 73, 3) := by decide +kernel
theorem dX13_linesIn_79 : decode cX13_linesIn 79 = .ok (.aload_n 0, 1) := by decide +kernel
theorem dX13_linesIn_80 : decode cX13_linesIn 80 = .ok (.getfield 48, 3) := by decide +kernel
theorem dX13_linesIn_83 : decode cX13_linesIn 83 = .ok (.iload_n 3, 1) := by decide +kernel
theorem dX13_linesIn_84 : decode cX13_linesIn 84 = .ok (.iaload, 1) := by decide +kernel
theorem dX13_linesIn_85 : decode cX13_linesIn 85 = .ok (.istore 4, 2) := by decide +kernel
theorem dX13_linesIn_87 : decode cX13_linesIn 87 = .ok (.aload_n 0, 1) := by decide +kernel
theorem dX13_linesIn_88 : decode cX13_linesIn 88 = .ok (.getfield 51, 3) := by decide +kernel
theorem dX13_linesIn_91 : decode cX13_linesIn 91 = .ok (.iload_n 3, 1) := by decide +kernel
theorem dX13_linesIn_92 : decode cX13_linesIn 92 = .ok (.iaload, 1) := by decide +kernel
theorem dX13_linesIn_93 : decode cX13_linesIn 93 = .ok (.istore 5, 2) := by decide +kernel
theorem dX13_linesIn_95 : decode cX13_linesIn 95 = .ok (.iload 4, 2) := by decide +kernel
theorem dX13_linesIn_97 : decode cX13_linesIn 97 = .ok (.iload 5, 2) := by decide +kernel
theorem dX13_linesIn_99 : decode cX13_linesIn 99 = .ok (.iadd, 1) := by decide +kernel
theorem dX13_linesIn_100 : decode cX13_linesIn 100 = .ok (.ifCond .le 43, 3) := by decide +kernel
theorem dX13_linesIn_103 : decode cX13_linesIn 103 = .ok (.aload_n 0, 1) := by decide +kernel
theorem dX13_linesIn_104 : decode cX13_linesIn 104 = .ok (.getfield 48, 3) := by decide +kernel
theorem dX13_linesIn_107 : decode cX13_linesIn 107 = .ok (.iload_n 3, 1) := by decide +kernel
theorem dX13_linesIn_108 : decode cX13_linesIn 108 = .ok (.iconst 0, 1) := by decide +kernel
theorem dX13_linesIn_109 : decode cX13_linesIn 109 = .ok (.iastore, 1) := by decide +kernel
theorem dX13_linesIn_110 : decode cX13_linesIn 110 = .ok (.aload_n 0, 1) := by decide +kernel
theorem dX13_linesIn_111 : decode cX13_linesIn 111 = .ok (.getfield 51, 3) := by decide +kernel
theorem dX13_linesIn_114 : decode cX13_linesIn 114 = .ok (.iload_n 3, 1) := by decide +kernel
theorem dX13_linesIn_115 : decode cX13_linesIn 115 = .ok (.iconst 0, 1) := by decide +kernel
theorem dX13_linesIn_116 : decode cX13_linesIn 116 = .ok (.iastore, 1) := by decide +kernel
theorem dX13_linesIn_117 : decode cX13_linesIn 117 = .ok (.aload_n 0, 1) := by decide +kernel
theorem dX13_linesIn_118 : decode cX13_linesIn 118 = .ok (.iload_n 3, 1) := by decide +kernel
theorem dX13_linesIn_119 : decode cX13_linesIn 119 = .ok (.bipush 40, 2) := by decide +kernel
theorem dX13_linesIn_121 : decode cX13_linesIn 121 = .ok (.idiv, 1) := by decide +kernel
theorem dX13_linesIn_122 : decode cX13_linesIn 122 = .ok (.iload_n 1, 1) := by decide +kernel
theorem dX13_linesIn_123 : decode cX13_linesIn 123 = .ok (.iload_n 2, 1) := by decide +kernel
theorem dX13_linesIn_124 : decode cX13_linesIn 124 = .ok (.invokestatic 230, 3) := by decide +kernel
theorem dX13_linesIn_127 : decode cX13_linesIn 127 = .ok (.iload_n 3, 1) := by decide +kernel
theorem dX13_linesIn_128 : decode cX13_linesIn 128 = .ok (.bipush 40, 2) := by decide +kernel
theorem dX13_linesIn_130 : decode cX13_linesIn 130 = .ok (.irem, 1) := by decide +kernel
theorem dX13_linesIn_131 : decode cX13_linesIn 131 = .ok (.iload_n 1, 1) := by decide +kernel
theorem dX13_linesIn_132 : decode cX13_linesIn 132 = .ok (.iload_n 2, 1) := by decide +kernel
theorem dX13_linesIn_133 : decode cX13_linesIn 133 = .ok (.invokestatic 230, 3) := by decide +kernel
theorem dX13_linesIn_136 : decode cX13_linesIn 136 = .ok (.iload 4, 2) := by decide +kernel
theorem dX13_linesIn_138 : decode cX13_linesIn 138 = .ok (.iload 5, 2) := by decide +kernel
theorem dX13_linesIn_140 : decode cX13_linesIn 140 = .ok (.invokevirtual 240, 3) := by decide +kernel
theorem dX13_linesIn_143 : decode cX13_linesIn 143 = .ok (.iinc 3 (-1), 3) := by decide +kernel
theorem dX13_linesIn_146 : decode cX13_linesIn 146 = .ok (.goto (-78), 3) := by decide +kernel
theorem dX13_linesIn_149 : decode cX13_linesIn 149 = .ok (.iconst 0, 1) := by decide +kernel
theorem dX13_linesIn_150 : decode cX13_linesIn 150 = .ok (.istore_n 3, 1) := by decide +kernel
theorem dX13_linesIn_151 : decode cX13_linesIn 151 = .ok (.iload_n 3, 1) := by decide +kernel
theorem dX13_linesIn_152 : decode cX13_linesIn 152 = .ok (.bipush 12, 2) := by decide +kernel
theorem dX13_linesIn_154 : decode cX13_linesIn 154 = .ok (.if_icmp .ge 26, 3) := by decide +kernel
theorem dX13_linesIn_157 : decode cX13_linesIn 157 = .ok (.aload_n 0, 1) := by decide +kernel
theorem dX13_linesIn_158 : decode cX13_linesIn 158 = .ok (.getfield 54, 3) := by decide +kernel
theorem dX13_linesIn_161 : decode cX13_linesIn 161 = .ok (.iload_n 3, 1) := by decide +kernel
theorem dX13_linesIn_162 : decode cX13_linesIn 162 = .ok (.aload_n 0, 1) := by decide +kernel
theorem dX13_linesIn_163 : decode cX13_linesIn 163 = .ok (.getfield 54, 3) := by decide +kernel
theorem dX13_linesIn_166 : decode cX13_linesIn 166 = .ok (.iload_n 3, 1) := by decide +kernel
theorem dX13_linesIn_167 : decode cX13_linesIn 167 = .ok (.iaload, 1) := by decide +kernel
theorem dX13_linesIn_168 : decode cX13_linesIn 168 = .ok (.iload_n 1, 1) := by decide +kernel
theorem dX13_linesIn_169 : decode cX13_linesIn 169 = .ok (.iload_n 2, 1) := by decide +kernel
theorem dX13_linesIn_170 : decode cX13_linesIn 170 = .ok (.invokestatic 230, 3) := by decide +kernel
theorem dX13_linesIn_173 : decode cX13_linesIn 173 = .ok (.iastore, 1) := by decide +kernel
theorem dX13_linesIn_174 : decode cX13_linesIn 174 = .ok (.iinc 3 1, 3) := by decide +kernel
theorem dX13_linesIn_177 : decode cX13_linesIn 177 = .ok (.goto (-26), 3) := by decide +kernel
theorem dX13_linesIn_180 : decode cX13_linesIn 180 = .ok (.iconst 0, 1) := by decide +kernel
theorem dX13_linesIn_181 : decode cX13_linesIn 181 = .ok (.istore_n 3, 1) := by decide +kernel
theorem dX13_linesIn_182 : decode cX13_linesIn 182 = .ok (.iload_n 3, 1) := by decide +kernel
theorem dX13_linesIn_183 : decode cX13_linesIn 183 = .ok (.sipush 1968, 3) := by decide +kernel
theorem dX13_linesIn_186 : decode cX13_linesIn 186 = .ok (.if_icmp .ge 26, 3) := by decide +kernel
theorem dX13_linesIn_189 : decode cX13_linesIn 189 = .ok (.aload_n 0, 1) := by decide +kernel
theorem dX13_linesIn_190 : decode cX13_linesIn 190 = .ok (.getfield 148, 3) := by decide +kernel
theorem dX13_linesIn_193 : decode cX13_linesIn 193 = .ok (.iload_n 3, 1) := by decide +kernel
theorem dX13_linesIn_194 : decode cX13_linesIn 194 = .ok (.aload_n 0, 1) := by decide +kernel
theorem dX13_linesIn_195 : decode cX13_linesIn 195 = .ok (.getfield 148, 3) := by decide +kernel
theorem dX13_linesIn_198 : decode cX13_linesIn 198 = .ok (.iload_n 3, 1) := by decide +kernel
theorem dX13_linesIn_199 : decode cX13_linesIn 199 = .ok (.iaload, 1) := by decide +kernel
theorem dX13_linesIn_200 : decode cX13_linesIn 200 = .ok (.iload_n 1, 1) := by decide +kernel
theorem dX13_linesIn_201 : decode cX13_linesIn 201 = .ok (.iload_n 2, 1) := by decide +kernel
theorem dX13_linesIn_202 : decode cX13_linesIn 202 = .ok (.invokestatic 230, 3) := by decide +kernel
theorem dX13_linesIn_205 : decode cX13_linesIn 205 = .ok (.iastore, 1) := by decide +kernel
theorem dX13_linesIn_206 : decode cX13_linesIn 206 = .ok (.iinc 3 1, 3) := by decide +kernel
theorem dX13_linesIn_209 : decode cX13_linesIn 209 = .ok (.goto (-27), 3) := by decide +kernel
theorem dX13_linesIn_212 : decode cX13_linesIn 212 = .ok (.return_, 1) := by decide +kernel
theorem dX13_without_0 : decode cX13_without 0 = .ok (.iload_n 0, 1) := by decide +kernel
theorem dX13_without_1 : decode cX13_without 1 = .ok (.iload_n 1, 1) := by decide +kernel
theorem dX13_without_2 : decode cX13_without 2 = .ok (.if_icmp .ge 7, 3) := by decide +kernel
theorem dX13_without_5 : decode cX13_without 5 = .ok (.iload_n 0, 1) := by decide +kernel
theorem dX13_without_6 : decode cX13_without 6 = .ok (.goto 19, 3) := by decide +kernel
theorem dX13_without_9 : decode cX13_without 9 = .ok (.iload_n 0, 1) := by decide +kernel
theorem dX13_without_10 : decode cX13_without 10 = .ok (.iload_n 2, 1) := by decide +kernel
theorem dX13_without_11 : decode cX13_without 11 = .ok (.if_icmp .gt 7, 3) := by decide +kernel
theorem dX13_without_14 : decode cX13_without 14 = .ok (.iconst (-1), 1) := by decide +kernel
theorem dX13_without_15 : decode cX13_without 15 = .ok (.goto 10, 3) := by decide +kernel
theorem dX13_without_18 : decode cX13_without 18 = .ok (.iload_n 0, 1) := by decide +kernel
theorem dX13_without_19 : decode cX13_without 19 = .ok (.iload_n 2, 1) := by decide +kernel
theorem dX13_without_20 : decode cX13_without 20 = .ok (.iload_n 1, 1) := by decide +kernel
theorem dX13_without_21 : decode cX13_without 21 = .ok (.isub, 1) := by decide +kernel
theorem dX13_without_22 : decode cX13_without 22 = .ok (.iconst 1, 1) := by decide +kernel
theorem dX13_without_23 : decode cX13_without 23 = .ok (.iadd, 1) := by decide +kernel
theorem dX13_without_24 : decode cX13_without 24 = .ok (.isub, 1) := by decide +kernel
theorem dX13_without_25 : decode cX13_without 25 = .ok (.ireturn, 1) := by decide +kernel
theorem dX13_dropsJump_0 : decode cX13_dropsJump 0 = .ok (.iload_n 1, 1) := by decide +kernel
theorem dX13_dropsJump_1 : decode cX13_dropsJump 1 = .ok (.istore_n 2, 1) := by decide +kernel
theorem dX13_dropsJump_2 : decode cX13_dropsJump 2 = .ok (.iload_n 2, 1) := by decide +kernel
theorem dX13_dropsJump_3 : decode cX13_dropsJump 3 = .ok (.iconst 1, 1) := by decide +kernel
theorem dX13_dropsJump_4 : decode cX13_dropsJump 4 = .ok (.iadd, 1) := by decide +kernel
theorem dX13_dropsJump_5 : decode cX13_dropsJump 5 = .ok (.aload_n 0, 1) := by decide +kernel
theorem dX13_dropsJump_6 : decode cX13_dropsJump 6 = .ok (.getfield 234, 3) := by decide +kernel
theorem dX13_dropsJump_9 : decode cX13_dropsJump 9 = .ok (.if_icmp .ge 37, 3) := by decide +kernel
theorem dX13_dropsJump_12 : decode cX13_dropsJump 12 = .ok (.aload_n 0, 1) := by decide +kernel
theorem dX13_dropsJump_13 : decode cX13_dropsJump 13 = .ok (.getfield 39, 3) := by decide +kernel
theorem dX13_dropsJump_16 : decode cX13_dropsJump 16 = .ok (.iload_n 2, 1) := by decide +kernel
theorem dX13_dropsJump_17 : decode cX13_dropsJump 17 = .ok (.aload_n 0, 1) := by decide +kernel
theorem dX13_dropsJump_18 : decode cX13_dropsJump 18 = .ok (.getfield 39, 3) := by decide +kernel
theorem dX13_dropsJump_21 : decode cX13_dropsJump 21 = .ok (.iload_n 2, 1) := by decide +kernel
theorem dX13_dropsJump_22 : decode cX13_dropsJump 22 = .ok (.iconst 1, 1) := by decide +kernel
theorem dX13_dropsJump_23 : decode cX13_dropsJump 23 = .ok (.iadd, 1) := by decide +kernel
theorem dX13_dropsJump_24 : decode cX13_dropsJump 24 = .ok (.iaload, 1) := by decide +kernel
theorem dX13_dropsJump_25 : decode cX13_dropsJump 25 = .ok (.iastore, 1) := by decide +kernel
theorem dX13_dropsJump_26 : decode cX13_dropsJump 26 = .ok (.aload_n 0, 1) := by decide +kernel
theorem dX13_dropsJump_27 : decode cX13_dropsJump 27 = .ok (.getfield 42, 3) := by decide +kernel
theorem dX13_dropsJump_30 : decode cX13_dropsJump 30 = .ok (.iload_n 2, 1) := by decide +kernel
theorem dX13_dropsJump_31 : decode cX13_dropsJump 31 = .ok (.aload_n 0, 1) := by decide +kernel
theorem dX13_dropsJump_32 : decode cX13_dropsJump 32 = .ok (.getfield 42, 3) := by decide +kernel
theorem dX13_dropsJump_35 : decode cX13_dropsJump 35 = .ok (.iload_n 2, 1) := by decide +kernel
theorem dX13_dropsJump_36 : decode cX13_dropsJump 36 = .ok (.iconst 1, 1) := by decide +kernel
theorem dX13_dropsJump_37 : decode cX13_dropsJump 37 = .ok (.iadd, 1) := by decide +kernel
theorem dX13_dropsJump_38 : decode cX13_dropsJump 38 = .ok (.iaload, 1) := by decide +kernel
theorem dX13_dropsJump_39 : decode cX13_dropsJump 39 = .ok (.iastore, 1) := by decide +kernel
theorem dX13_dropsJump_40 : decode cX13_dropsJump 40 = .ok (.iinc 2 1, 3) := by decide +kernel
theorem dX13_dropsJump_43 : decode cX13_dropsJump 43 = .ok (.goto (-41), 3) := by decide +kernel
theorem dX13_dropsJump_46 : decode cX13_dropsJump 46 = .ok (.aload_n 0, 1) := by decide +kernel
theorem dX13_dropsJump_47 : decode cX13_dropsJump 47 = .ok (.dup, 1) := by decide +kernel
theorem dX13_dropsJump_48 : decode cX13_dropsJump 48 = .ok (.getfield 234, 3) := by decide +kernel
theorem dX13_dropsJump_51 : decode cX13_dropsJump 51 = .ok (.iconst 1, 1) := by decide +kernel
theorem dX13_dropsJump_52 : decode cX13_dropsJump 52 = .ok (.isub, 1) := by decide +kernel
theorem dX13_dropsJump_53 : decode cX13_dropsJump 53 = .ok (.putfield 234, 3) := by decide +kernel
theorem dX13_dropsJump_56 : decode cX13_dropsJump 56 = .ok (.aload_n 0, 1) := by decide +kernel
theorem dX13_dropsJump_57 : decode cX13_dropsJump 57 = .ok (.aload_n 0, 1) := by decide +kernel
theorem dX13_dropsJump_58 : decode cX13_dropsJump 58 = .ok (.getfield 45, 3) := by decide +kernel
theorem dX13_dropsJump_61 : decode cX13_dropsJump 61 = .ok (.iload_n 1, 1) := by decide +kernel
theorem dX13_dropsJump_62 : decode cX13_dropsJump 62 = .ok (.if_icmp .ne 7, 3) := by decide +kernel
theorem dX13_dropsJump_65 : decode cX13_dropsJump 65 = .ok (.iconst (-1), 1) := by decide +kernel
theorem dX13_dropsJump_66 : decode cX13_dropsJump 66 = .ok (.goto 24, 3) := by decide +kernel
theorem dX13_dropsJump_69 : decode cX13_dropsJump 69 = .ok (.aload_n 0, 1) := by decide +kernel
theorem dX13_dropsJump_70 : decode cX13_dropsJump 70 = .ok (.getfield 45, 3) := by decide +kernel
theorem dX13_dropsJump_73 : decode cX13_dropsJump 73 = .ok (.iload_n 1, 1) := by decide +kernel
theorem dX13_dropsJump_74 : decode cX13_dropsJump 74 = .ok (.if_icmp .le 12, 3) := by decide +kernel
theorem dX13_dropsJump_77 : decode cX13_dropsJump 77 = .ok (.aload_n 0, 1) := by decide +kernel
theorem dX13_dropsJump_78 : decode cX13_dropsJump 78 = .ok (.getfield 45, 3) := by decide +kernel
theorem dX13_dropsJump_81 : decode cX13_dropsJump 81 = .ok (.iconst 1, 1) := by decide +kernel
theorem dX13_dropsJump_82 : decode cX13_dropsJump 82 = .ok (.isub, 1) := by decide +kernel
theorem dX13_dropsJump_83 : decode cX13_dropsJump 83 = .ok (.goto 7, 3) := by decide +kernel
theorem dX13_dropsJump_86 : decode cX13_dropsJump 86 = .ok (.aload_n 0, 1) := by decide +kernel
theorem dX13_dropsJump_87 : decode cX13_dropsJump 87 = .ok (.getfield 45, 3) := by decide +kernel
theorem dX13_dropsJump_90 : decode cX13_dropsJump 90 = .ok (.putfield 45, 3) := by decide +kernel
theorem dX13_dropsJump_93 : decode cX13_dropsJump 93 = .ok (.return_, 1) := by decide +kernel
theorem dX13_addsFolds_0 : decode cX13_addsFolds 0 = .ok (.aload_n 0, 1) := by decide +kernel
theorem dX13_addsFolds_1 : decode cX13_addsFolds 1 = .ok (.getfield 48, 3) := by decide +kernel
theorem dX13_addsFolds_4 : decode cX13_addsFolds 4 = .ok (.bipush 40, 2) := by decide +kernel
theorem dX13_addsFolds_6 : decode cX13_addsFolds 6 = .ok (.iload_n 1, 1) := by decide +kernel
theorem dX13_addsFolds_7 : decode cX13_addsFolds 7 = .ok (.imul, 1) := by decide +kernel
theorem dX13_addsFolds_8 : decode cX13_addsFolds 8 = .ok (.iload_n 2, 1) := by decide +kernel
theorem dX13_addsFolds_9 : decode cX13_addsFolds 9 = .ok (.iadd, 1) := by decide +kernel
theorem dX13_addsFolds_10 : decode cX13_addsFolds 10 = .ok (.dup2, 1) := by decide +kernel
theorem dX13_addsFolds_11 : decode cX13_addsFolds 11 = .ok (.iaload, 1) := by decide +kernel
theorem dX13_addsFolds_12 : decode cX13_addsFolds 12 = .ok (.iload_n 3, 1) := by decide +kernel
theorem dX13_addsFolds_13 : decode cX13_addsFolds 13 = .ok (.iadd, 1) := by decide +kernel
theorem dX13_addsFolds_14 : decode cX13_addsFolds 14 = .ok (.iastore, 1) := by decide +kernel
theorem dX13_addsFolds_15 : decode cX13_addsFolds 15 = .ok (.aload_n 0, 1) := by decide +kernel
theorem dX13_addsFolds_16 : decode cX13_addsFolds 16 = .ok (.getfield 51, 3) := by decide +kernel
theorem dX13_addsFolds_19 : decode cX13_addsFolds 19 = .ok (.bipush 40, 2) := by decide +kernel
theorem dX13_addsFolds_21 : decode cX13_addsFolds 21 = .ok (.iload_n 1, 1) := by decide +kernel
theorem dX13_addsFolds_22 : decode cX13_addsFolds 22 = .ok (.imul, 1) := by decide +kernel
theorem dX13_addsFolds_23 : decode cX13_addsFolds 23 = .ok (.iload_n 2, 1) := by decide +kernel
theorem dX13_addsFolds_24 : decode cX13_addsFolds 24 = .ok (.iadd, 1) := by decide +kernel
theorem dX13_addsFolds_25 : decode cX13_addsFolds 25 = .ok (.dup2, 1) := by decide +kernel
theorem dX13_addsFolds_26 : decode cX13_addsFolds 26 = .ok (.iaload, 1) := by decide +kernel
theorem dX13_addsFolds_27 : decode cX13_addsFolds 27 = .ok (.iload 4, 2) := by decide +kernel
theorem dX13_addsFolds_29 : decode cX13_addsFolds 29 = .ok (.iadd, 1) := by decide +kernel
theorem dX13_addsFolds_30 : decode cX13_addsFolds 30 = .ok (.iastore, 1) := by decide +kernel
theorem dX13_addsFolds_31 : decode cX13_addsFolds 31 = .ok (.return_, 1) := by decide +kernel
theorem dX13_dropsCursors_0 : decode cX13_dropsCursors 0 = .ok (.iconst 0, 1) := by decide +kernel
theorem dX13_dropsCursors_1 : decode cX13_dropsCursors 1 = .ok (.istore_n 1, 1) := by decide +kernel
theorem dX13_dropsCursors_2 : decode cX13_dropsCursors 2 = .ok (.iconst 0, 1) := by decide +kernel
theorem dX13_dropsCursors_3 : decode cX13_dropsCursors 3 = .ok (.istore_n 2, 1) := by decide +kernel
theorem dX13_dropsCursors_4 : decode cX13_dropsCursors 4 = .ok (.iload_n 2, 1) := by decide +kernel
theorem dX13_dropsCursors_5 : decode cX13_dropsCursors 5 = .ok (.aload_n 0, 1) := by decide +kernel
theorem dX13_dropsCursors_6 : decode cX13_dropsCursors 6 = .ok (.getfield 244, 3) := by decide +kernel
theorem dX13_dropsCursors_9 : decode cX13_dropsCursors 9 = .ok (.if_icmp .ge 53, 3) := by decide +kernel
theorem dX13_dropsCursors_12 : decode cX13_dropsCursors 12 = .ok (.aload_n 0, 1) := by decide +kernel
theorem dX13_dropsCursors_13 : decode cX13_dropsCursors 13 = .ok (.invokevirtual 247, 3) := by decide +kernel
theorem dX13_dropsCursors_16 : decode cX13_dropsCursors 16 = .ok (.ifCond .ne 46, 3) := by decide +kernel
theorem dX13_dropsCursors_19 : decode cX13_dropsCursors 19 = .ok (.aload_n 0, 1) := by decide +kernel
theorem dX13_dropsCursors_20 : decode cX13_dropsCursors 20 = .ok (.getfield 54, 3) := by decide +kernel
theorem dX13_dropsCursors_23 : decode cX13_dropsCursors 23 = .ok (.iload_n 2, 1) := by decide +kernel
theorem dX13_dropsCursors_24 : decode cX13_dropsCursors 24 = .ok (.iaload, 1) := by decide +kernel
theorem dX13_dropsCursors_25 : decode cX13_dropsCursors 25 = .ok (.iconst (-1), 1) := by decide +kernel
theorem dX13_dropsCursors_26 : decode cX13_dropsCursors 26 = .ok (.if_icmp .eq 30, 3) := by decide +kernel
theorem dX13_dropsCursors_29 : decode cX13_dropsCursors 29 = .ok (.aload_n 0, 1) := by decide +kernel
theorem dX13_dropsCursors_30 : decode cX13_dropsCursors 30 = .ok (.getfield 54, 3) := by decide +kernel
theorem dX13_dropsCursors_33 : decode cX13_dropsCursors 33 = .ok (.iload_n 1, 1) := by decide +kernel
theorem dX13_dropsCursors_34 : decode cX13_dropsCursors 34 = .ok (.aload_n 0, 1) := by decide +kernel
theorem dX13_dropsCursors_35 : decode cX13_dropsCursors 35 = .ok (.getfield 54, 3) := by decide +kernel
theorem dX13_dropsCursors_38 : decode cX13_dropsCursors 38 = .ok (.iload_n 2, 1) := by decide +kernel
theorem dX13_dropsCursors_39 : decode cX13_dropsCursors 39 = .ok (.iaload, 1) := by decide +kernel
theorem dX13_dropsCursors_40 : decode cX13_dropsCursors 40 = .ok (.iastore, 1) := by decide +kernel
theorem dX13_dropsCursors_41 : decode cX13_dropsCursors 41 = .ok (.aload_n 0, 1) := by decide +kernel
theorem dX13_dropsCursors_42 : decode cX13_dropsCursors 42 = .ok (.getfield 57, 3) := by decide +kernel
theorem dX13_dropsCursors_45 : decode cX13_dropsCursors 45 = .ok (.iload_n 1, 1) := by decide +kernel
theorem dX13_dropsCursors_46 : decode cX13_dropsCursors 46 = .ok (.aload_n 0, 1) := by decide +kernel
theorem dX13_dropsCursors_47 : decode cX13_dropsCursors 47 = .ok (.getfield 57, 3) := by decide +kernel
theorem dX13_dropsCursors_50 : decode cX13_dropsCursors 50 = .ok (.iload_n 2, 1) := by decide +kernel
theorem dX13_dropsCursors_51 : decode cX13_dropsCursors 51 = .ok (.iaload, 1) := by decide +kernel
theorem dX13_dropsCursors_52 : decode cX13_dropsCursors 52 = .ok (.iastore, 1) := by decide +kernel
theorem dX13_dropsCursors_53 : decode cX13_dropsCursors 53 = .ok (.iinc 1 1, 3) := by decide +kernel
theorem dX13_dropsCursors_56 : decode cX13_dropsCursors 56 = .ok (.iinc 2 1, 3) := by decide +kernel
theorem dX13_dropsCursors_59 : decode cX13_dropsCursors 59 = .ok (.goto (-55), 3) := by decide +kernel
theorem dX13_dropsCursors_62 : decode cX13_dropsCursors 62 = .ok (.aload_n 0, 1) := by decide +kernel
theorem dX13_dropsCursors_63 : decode cX13_dropsCursors 63 = .ok (.aload_n 0, 1) := by decide +kernel
theorem dX13_dropsCursors_64 : decode cX13_dropsCursors 64 = .ok (.invokevirtual 247, 3) := by decide +kernel
theorem dX13_dropsCursors_67 : decode cX13_dropsCursors 67 = .ok (.ifCond .eq 10, 3) := by decide +kernel
theorem dX13_dropsCursors_70 : decode cX13_dropsCursors 70 = .ok (.aload_n 0, 1) := by decide +kernel
theorem dX13_dropsCursors_71 : decode cX13_dropsCursors 71 = .ok (.getfield 244, 3) := by decide +kernel
theorem dX13_dropsCursors_74 : decode cX13_dropsCursors 74 = .ok (.goto 4, 3) := by decide +kernel
theorem dX13_dropsCursors_77 : decode cX13_dropsCursors 77 = .ok (.iload_n 1, 1) := by decide +kernel
theorem dX13_dropsCursors_78 : decode cX13_dropsCursors 78 = .ok (.putfield 244, 3) := by decide +kernel
theorem dX13_dropsCursors_81 : decode cX13_dropsCursors 81 = .ok (.return_, 1) := by decide +kernel
theorem dX13_linesOut_0 : decode cX13_linesOut 0 = .ok (.iload_n 2, 1) := by decide +kernel
theorem dX13_linesOut_1 : decode cX13_linesOut 1 = .ok (.iload_n 1, 1) := by decide +kernel
theorem dX13_linesOut_2 : decode cX13_linesOut 2 = .ok (.isub, 1) := by decide +kernel
theorem dX13_linesOut_3 : decode cX13_linesOut 3 = .ok (.iconst 1, 1) := by decide +kernel
theorem dX13_linesOut_4 : decode cX13_linesOut 4 = .ok (.iadd, 1) := by decide +kernel
theorem dX13_linesOut_5 : decode cX13_linesOut 5 = .ok (.istore_n 3, 1) := by decide +kernel
theorem dX13_linesOut_6 : decode cX13_linesOut 6 = .ok (.iconst 0, 1) := by decide +kernel
theorem dX13_linesOut_7 : decode cX13_linesOut 7 = .ok (.istore 4, 2) := by decide +kernel
theorem dX13_linesOut_9 : decode cX13_linesOut 9 = .ok (.iload 4, 2) := by decide +kernel
theorem dX13_linesOut_11 : decode cX13_linesOut 11 = .ok (.bipush 26, 2) := by decide +kernel
theorem dX13_linesOut_13 : decode cX13_linesOut 13 = .ok (.if_icmp .ge 28, 3) := by decide +kernel
theorem dX13_linesOut_16 : decode cX13_linesOut 16 = .ok (.aload_n 0, 1) := by decide +kernel
theorem dX13_linesOut_17 : decode cX13_linesOut 17 = .ok (.getfield 33, 3) := by decide +kernel
theorem dX13_linesOut_20 : decode cX13_linesOut 20 = .ok (.iload 4, 2) := by decide +kernel
theorem dX13_linesOut_22 : decode cX13_linesOut 22 = .ok (.aload_n 0, 1) := by decide +kernel
theorem dX13_linesOut_23 : decode cX13_linesOut 23 = .ok (.getfield 33, 3) := by decide +kernel
theorem dX13_linesOut_26 : decode cX13_linesOut 26 = .ok (.iload 4, 2) := by decide +kernel
theorem dX13_linesOut_28 : decode cX13_linesOut 28 = .ok (.iaload, 1) := by decide +kernel
theorem dX13_linesOut_29 : decode cX13_linesOut 29 = .ok (.iload_n 1, 1) := by decide +kernel
theorem dX13_linesOut_30 : decode cX13_linesOut 30 = .ok (.iload_n 2, 1) := by decide +kernel
theorem dX13_linesOut_31 : decode cX13_linesOut 31 = .ok (.invokestatic 251, 3) := by decide +kernel
theorem dX13_linesOut_34 : decode cX13_linesOut 34 = .ok (.iastore, 1) := by decide +kernel
theorem dX13_linesOut_35 : decode cX13_linesOut 35 = .ok (.iinc 4 1, 3) := by decide +kernel
theorem dX13_linesOut_38 : decode cX13_linesOut 38 = .ok (.goto (-29), 3) := by decide +kernel
theorem dX13_linesOut_41 : decode cX13_linesOut 41 = .ok (.aload_n 0, 1) := by decide +kernel
theorem dX13_linesOut_42 : decode cX13_linesOut 42 = .ok (.getfield 234, 3) := by decide +kernel
theorem dX13_linesOut_45 : decode cX13_linesOut 45 = .ok (.iconst 1, 1) := by decide +kernel
theorem dX13_linesOut_46 : decode cX13_linesOut 46 = .ok (.isub, 1) := by decide +kernel
theorem dX13_linesOut_47 : decode cX13_linesOut 47 = .ok (.istore 4, 2) := by decide +kernel
theorem dX13_linesOut_49 : decode cX13_linesOut 49 = .ok (.iload 4, 2) := by decide +kernel
theorem dX13_linesOut_51 : decode cX13_linesOut 51 = .ok (.ifCond .lt 45, 3) := by decide +kernel
theorem dX13_linesOut_54 : decode cX13_linesOut 54 = .ok (.aload_n 0, 1) := by decide +kernel
theorem dX13_linesOut_55 : decode cX13_linesOut 55 = .ok (.getfield 39, 3) := by decide +kernel
theorem dX13_linesOut_58 : decode cX13_linesOut 58 = .ok (.iload 4, 2) := by decide +kernel
theorem dX13_linesOut_60 : decode cX13_linesOut 60 = .ok (.aload_n 0, 1) := by decide +kernel
theorem dX13_linesOut_61 : decode cX13_linesOut 61 = .ok (.getfield 39, 3) := by decide +kernel
theorem dX13_linesOut_64 : decode cX13_linesOut 64 = .ok (.iload 4, 2) := by decide +kernel
theorem dX13_linesOut_66 : decode cX13_linesOut 66 = .ok (.iaload, 1) := by decide +kernel
theorem dX13_linesOut_67 : decode cX13_linesOut 67 = .ok (.iload_n 1, 1) := by decide +kernel
theorem dX13_linesOut_68 : decode cX13_linesOut 68 = .ok (.iload_n 2, 1) := by decide +kernel
theorem dX13_linesOut_69 : decode cX13_linesOut 69 = .ok (.invokestatic 251, 3) := by decide +kernel
theorem dX13_linesOut_72 : decode cX13_linesOut 72 = .ok (.iastore, 1) := by decide +kernel
theorem dX13_linesOut_73 : decode cX13_linesOut 73 = .ok (.aload_n 0, 1) := by decide +kernel
theorem dX13_linesOut_74 : decode cX13_linesOut 74 = .ok (.getfield 39, 3) := by decide +kernel
theorem dX13_linesOut_77 : decode cX13_linesOut 77 = .ok (.iload 4, 2) := by decide +kernel
theorem dX13_linesOut_79 : decode cX13_linesOut 79 = .ok (.iaload, 1) := by decide +kernel
theorem dX13_linesOut_80 : decode cX13_linesOut 80 = .ok (.iconst (-1), 1) := by decide +kernel
theorem dX13_linesOut_81 : decode cX13_linesOut 81 = .ok (.if_icmp .ne 9, 3) := by decide +kernel
theorem dX13_linesOut_84 : decode cX13_linesOut 84 = .ok (.aload_n 0, 1) := by decide +kernel
theorem dX13_linesOut_85 : decode cX13_linesOut 85 = .ok (.iload 4, 2) := by decide +kernel
theorem dX13_linesOut_87 : decode cX13_linesOut 87 = .ok (.invokevirtual 254, 3) := by decide +kernel
theorem dX13_linesOut_90 : decode cX13_linesOut 90 = .ok (.iinc 4 (-1), 3) := by decide +kernel
theorem dX13_linesOut_93 : decode cX13_linesOut 93 = .ok (.goto (-44), 3) := by decide +kernel
theorem dX13_linesOut_96 : decode cX13_linesOut 96 = .ok (.iconst 0, 1) := by decide +kernel
theorem dX13_linesOut_97 : decode cX13_linesOut 97 = .ok (.istore 4, 2) := by decide +kernel
theorem dX13_linesOut_99 : decode cX13_linesOut 99 = .ok (.iload 4, 2) := by decide +kernel
theorem dX13_linesOut_101 : decode cX13_linesOut 101 = .ok (.sipush 1600, 3) := by decide +kernel
theorem dX13_linesOut_104 : decode cX13_linesOut 104 = .ok (.if_icmp .ge 156, 3) := by decide +kernel
theorem dX13_linesOut_107 : decode cX13_linesOut 107 = .ok (.aload_n 0, 1) := by decide +kernel
theorem dX13_linesOut_108 : decode cX13_linesOut 108 = .ok (.getfield 237, 3) := by decide +kernel
theorem dX13_linesOut_111 : decode cX13_linesOut 111 = .ok (.ifCond .le 149, 3) := by decide +kernel
theorem dX13_linesOut_114 : decode cX13_linesOut 114 = .ok (.aload_n 0, 1) := by decide +kernel
theorem dX13_linesOut_115 : decode cX13_linesOut 115 = .ok (.getfield 48, 3) := by decide +kernel
theorem dX13_linesOut_118 : decode cX13_linesOut 118 = .ok (.iload 4, 2) := by decide +kernel
theorem dX13_linesOut_120 : decode cX13_linesOut 120 = .ok (.iaload, 1) := by decide +kernel
theorem dX13_linesOut_121 : decode cX13_linesOut 121 = .ok (.istore 5, 2) := by decide +kernel
theorem dX13_linesOut_123 : decode cX13_linesOut 123 = .ok (.aload_n 0, 1) := by decide +kernel
theorem dX13_linesOut_124 : decode cX13_linesOut 124 = .ok (.getfield 51, 3) := by decide +kernel
theorem dX13_linesOut_127 : decode cX13_linesOut 127 = .ok (.iload 4, 2) := by decide +kernel
theorem dX13_linesOut_129 : decode cX13_linesOut 129 = .ok (.iaload, 1) := by decide +kernel
theorem dX13_linesOut_130 : decode cX13_linesOut 130 = .ok (.istore 6, 2) := by decide +kernel
theorem dX13_linesOut_132 : decode cX13_linesOut 132 = .ok (.iload 4, 2) := by decide +kernel
theorem dX13_linesOut_134 : decode cX13_linesOut 134 = .ok (.bipush 40, 2) := by decide +kernel
theorem dX13_linesOut_136 : decode cX13_linesOut 136 = .ok (.idiv, 1) := by decide +kernel
theorem dX13_linesOut_137 : decode cX13_linesOut 137 = .ok (.iload_n 2, 1) := by decide +kernel
theorem dX13_linesOut_138 : decode cX13_linesOut 138 = .ok (.if_icmp .le 13, 3) := by decide +kernel
theorem dX13_linesOut_141 : decode cX13_linesOut 141 = .ok (.iload 4, 2) := by decide +kernel
theorem dX13_linesOut_143 : decode cX13_linesOut 143 = .ok (.bipush 40, 2) := by decide +kernel
theorem dX13_linesOut_145 : decode cX13_linesOut 145 = .ok (.idiv, 1) := by decide +kernel
theorem dX13_linesOut_146 : decode cX13_linesOut 146 = .ok (.iload_n 3, 1) := by decide +kernel
theorem dX13_linesOut_147 : decode cX13_linesOut 147 = .ok (.isub, 1) := by decide +kernel
theorem dX13_linesOut_148 : decode cX13_linesOut 148 = .ok (.goto 12, 3) := by decide +kernel
theorem dX13_linesOut_151 : decode cX13_linesOut 151 = .ok (.iload 4, 2) := by decide +kernel
theorem dX13_linesOut_153 : decode cX13_linesOut 153 = .ok (.bipush 40, 2) := by decide +kernel
theorem dX13_linesOut_155 : decode cX13_linesOut 155 = .ok (.idiv, 1) := by decide +kernel
theorem dX13_linesOut_156 : decode cX13_linesOut 156 = .ok (.iload_n 1, 1) := by decide +kernel
theorem dX13_linesOut_157 : decode cX13_linesOut 157 = .ok (.invokestatic 257, 3) := by decide +kernel
theorem dX13_linesOut_160 : decode cX13_linesOut 160 = .ok (.istore 7, 2) := by decide +kernel
theorem dX13_linesOut_162 : decode cX13_linesOut 162 = .ok (.iload 4, 2) := by decide +kernel
theorem dX13_linesOut_164 : decode cX13_linesOut 164 = .ok (.bipush 40, 2) := by decide +kernel
theorem dX13_linesOut_166 : decode cX13_linesOut 166 = .ok (.irem, 1) := by decide +kernel
theorem dX13_linesOut_167 : decode cX13_linesOut 167 = .ok (.iload_n 2, 1) := by decide +kernel
theorem dX13_linesOut_168 : decode cX13_linesOut 168 = .ok (.if_icmp .le 13, 3) := by decide +kernel
theorem dX13_linesOut_171 : decode cX13_linesOut 171 = .ok (.iload 4, 2) := by decide +kernel
theorem dX13_linesOut_173 : decode cX13_linesOut 173 = .ok (.bipush 40, 2) := by decide +kernel
theorem dX13_linesOut_175 : decode cX13_linesOut 175 = .ok (.irem, 1) := by decide +kernel
theorem dX13_linesOut_176 : decode cX13_linesOut 176 = .ok (.iload_n 3, 1) := by decide +kernel
theorem dX13_linesOut_177 : decode cX13_linesOut 177 = .ok (.isub, 1) := by decide +kernel
theorem dX13_linesOut_178 : decode cX13_linesOut 178 = .ok (.goto 14, 3) := by decide +kernel
theorem dX13_linesOut_181 : decode cX13_linesOut 181 = .ok (.iload 4, 2) := by decide +kernel
theorem dX13_linesOut_183 : decode cX13_linesOut 183 = .ok (.bipush 40, 2) := by decide +kernel
theorem dX13_linesOut_185 : decode cX13_linesOut 185 = .ok (.irem, 1) := by decide +kernel
theorem dX13_linesOut_186 : decode cX13_linesOut 186 = .ok (.iload_n 1, 1) := by decide +kernel
theorem dX13_linesOut_187 : decode cX13_linesOut 187 = .ok (.iconst 1, 1) := by decide +kernel
theorem dX13_linesOut_188 : decode cX13_linesOut 188 = .ok (.isub, 1) := by decide +kernel
theorem dX13_linesOut_189 : decode cX13_linesOut 189 = .ok (.invokestatic 257, 3) := by decide +kernel
theorem dX13_linesOut_192 : decode cX13_linesOut 192 = .ok (.istore 8, 2) := by decide +kernel
theorem dX13_linesOut_194 : decode cX13_linesOut 194 = .ok (.aload_n 0, 1) := by decide +kernel
theorem dX13_linesOut_195 : decode cX13_linesOut 195 = .ok (.getfield 48, 3) := by decide +kernel
theorem dX13_linesOut_198 : decode cX13_linesOut 198 = .ok (.iload 4, 2) := by decide +kernel
theorem dX13_linesOut_200 : decode cX13_linesOut 200 = .ok (.iconst 0, 1) := by decide +kernel
theorem dX13_linesOut_201 : decode cX13_linesOut 201 = .ok (.iastore, 1) := by decide +kernel
theorem dX13_linesOut_202 : decode cX13_linesOut 202 = .ok (.aload_n 0, 1) := by decide +kernel
theorem dX13_linesOut_203 : decode cX13_linesOut 203 = .ok (.getfield 51, 3) := by decide +kernel
theorem dX13_linesOut_206 : decode cX13_linesOut 206 = .ok (.iload 4, 2) := by decide +kernel
theorem dX13_linesOut_208 : decode cX13_linesOut 208 = .ok (.iconst 0, 1) := by decide +kernel
theorem dX13_linesOut_209 : decode cX13_linesOut 209 = .ok (.iastore, 1) := by decide +kernel
theorem dX13_linesOut_210 : decode cX13_linesOut 210 = .ok (.iload 5, 2) := by decide +kernel
theorem dX13_linesOut_212 : decode cX13_linesOut 212 = .ok (.iload 6, 2) := by decide +kernel
theorem dX13_linesOut_214 : decode cX13_linesOut 214 = .ok (.iadd, 1) := by decide +kernel
theorem dX13_linesOut_215 : decode cX13_linesOut 215 = .ok (.ifCond .le 25, 3) := by decide +kernel
theorem dX13_linesOut_218 : decode cX13_linesOut 218 = .ok (.iload 8, 2) := by decide +kernel
theorem dX13_linesOut_220 : decode cX13_linesOut 220 = .ok (.iload 7, 2) := by decide +kernel
theorem dX13_linesOut_222 : decode cX13_linesOut 222 = .ok (.if_icmp .le 18, 3) := by decide +kernel
theorem dX13_linesOut_225 : decode cX13_linesOut 225 = .ok (.aload_n 0, 1) := by decide +kernel
theorem dX13_linesOut_226 : decode cX13_linesOut 226 = .ok (.iload 7, 2) := by decide +kernel
theorem dX13_linesOut_228 : decode cX13_linesOut 228 = .ok (.iload 8, 2) := by decide +kernel
theorem dX13_linesOut_230 : decode cX13_linesOut 230 = .ok (.iload 5, 2) := by decide +kernel
theorem dX13_linesOut_232 : decode cX13_linesOut 232 = .ok (.iload 6, 2) := by decide +kernel
theorem dX13_linesOut_234 : decode cX13_linesOut 234 = .ok (.invokevirtual 240, 3) := by decide +kernel
theorem dX13_linesOut_237 : decode cX13_linesOut 237 = .ok (.goto 17, 3) := by decide +kernel
theorem dX13_linesOut_240 : decode cX13_linesOut 240 = .ok (.aload_n 0, 1) := by decide +kernel
theorem dX13_linesOut_241 : decode cX13_linesOut 241 = .ok (.dup, 1) := by decide +kernel
theorem dX13_linesOut_242 : decode cX13_linesOut 242 = .ok (.getfield 237, 3) := by decide +kernel
theorem dX13_linesOut_245 : decode cX13_linesOut 245 = .ok (.iload 5, 2) := by decide +kernel
theorem dX13_linesOut_247 : decode cX13_linesOut 247 = .ok (.iload 6, 2) := by decide +kernel
theorem dX13_linesOut_249 : decode cX13_linesOut 249 = .ok (.iadd, 1) := by decide +kernel
theorem dX13_linesOut_250 : decode cX13_linesOut 250 = .ok (.isub, 1) := by decide +kernel
theorem dX13_linesOut_251 : decode cX13_linesOut 251 = .ok (.putfield 237, 3) := by decide +kernel
theorem dX13_linesOut_254 : decode cX13_linesOut 254 = .ok (.iinc 4 1, 3) := by decide +kernel
theorem dX13_linesOut_257 : decode cX13_linesOut 257 = .ok (.goto (-158), 3) := by decide +kernel
theorem dX13_linesOut_260 : decode cX13_linesOut 260 = .ok (.iconst 0, 1) := by decide +kernel
theorem dX13_linesOut_261 : decode cX13_linesOut 261 = .ok (.istore 4, 2) := by decide +kernel
theorem dX13_linesOut_263 : decode cX13_linesOut 263 = .ok (.iload 4, 2) := by decide +kernel
theorem dX13_linesOut_265 : decode cX13_linesOut 265 = .ok (.bipush 11, 2) := by decide +kernel
theorem dX13_linesOut_267 : decode cX13_linesOut 267 = .ok (.if_icmp .ge 28, 3) := by decide +kernel
theorem dX13_linesOut_270 : decode cX13_linesOut 270 = .ok (.aload_n 0, 1) := by decide +kernel
theorem dX13_linesOut_271 : decode cX13_linesOut 271 = .ok (.getfield 54, 3) := by decide +kernel
theorem dX13_linesOut_274 : decode cX13_linesOut 274 = .ok (.iload 4, 2) := by decide +kernel
theorem dX13_linesOut_276 : decode cX13_linesOut 276 = .ok (.aload_n 0, 1) := by decide +kernel
theorem dX13_linesOut_277 : decode cX13_linesOut 277 = .ok (.getfield 54, 3) := by decide +kernel
theorem dX13_linesOut_280 : decode cX13_linesOut 280 = .ok (.iload 4, 2) := by decide +kernel
theorem dX13_linesOut_282 : decode cX13_linesOut 282 = .ok (.iaload, 1) := by decide +kernel
theorem dX13_linesOut_283 : decode cX13_linesOut 283 = .ok (.iload_n 1, 1) := by decide +kernel
theorem dX13_linesOut_284 : decode cX13_linesOut 284 = .ok (.iload_n 2, 1) := by decide +kernel
theorem dX13_linesOut_285 : decode cX13_linesOut 285 = .ok (.invokestatic 251, 3) := by decide +kernel
theorem dX13_linesOut_288 : decode cX13_linesOut 288 = .ok (.iastore, 1) := by decide +kernel
theorem dX13_linesOut_289 : decode cX13_linesOut 289 = .ok (.iinc 4 1, 3) := by decide +kernel
theorem dX13_linesOut_292 : decode cX13_linesOut 292 = .ok (.goto (-29), 3) := by decide +kernel
theorem dX13_linesOut_295 : decode cX13_linesOut 295 = .ok (.aload_n 0, 1) := by decide +kernel
theorem dX13_linesOut_296 : decode cX13_linesOut 296 = .ok (.invokevirtual 260, 3) := by decide +kernel
theorem dX13_linesOut_299 : decode cX13_linesOut 299 = .ok (.aload_n 0, 1) := by decide +kernel
theorem dX13_linesOut_300 : decode cX13_linesOut 300 = .ok (.getfield 54, 3) := by decide +kernel
theorem dX13_linesOut_303 : decode cX13_linesOut 303 = .ok (.bipush 11, 2) := by decide +kernel
theorem dX13_linesOut_305 : decode cX13_linesOut 305 = .ok (.aload_n 0, 1) := by decide +kernel
theorem dX13_linesOut_306 : decode cX13_linesOut 306 = .ok (.getfield 54, 3) := by decide +kernel
theorem dX13_linesOut_309 : decode cX13_linesOut 309 = .ok (.bipush 11, 2) := by decide +kernel
theorem dX13_linesOut_311 : decode cX13_linesOut 311 = .ok (.iaload, 1) := by decide +kernel
theorem dX13_linesOut_312 : decode cX13_linesOut 312 = .ok (.iload_n 1, 1) := by decide +kernel
theorem dX13_linesOut_313 : decode cX13_linesOut 313 = .ok (.iload_n 2, 1) := by decide +kernel
theorem dX13_linesOut_314 : decode cX13_linesOut 314 = .ok (.invokestatic 198, 3) := by decide +kernel
theorem dX13_linesOut_317 : decode cX13_linesOut 317 = .ok (.ifCond .eq 20, 3) := by decide +kernel
theorem dX13_linesOut_320 : decode cX13_linesOut 320 = .ok (.iconst 0, 1) := by decide +kernel
theorem dX13_linesOut_321 : decode cX13_linesOut 321 = .ok (.iload_n 1, 1) := by decide +kernel
theorem dX13_linesOut_322 : decode cX13_linesOut 322 = .ok (.aload_n 0, 1) := by decide +kernel
theorem dX13_linesOut_323 : decode cX13_linesOut 323 = .ok (.getfield 13, 3) := by decide +kernel
theorem dX13_linesOut_326 : decode cX13_linesOut 326 = .ok (.iconst 1, 1) := by decide +kernel
theorem dX13_linesOut_327 : decode cX13_linesOut 327 = .ok (.isub, 1) := by decide +kernel
theorem dX13_linesOut_328 : decode cX13_linesOut 328 = .ok (.invokestatic 257, 3) := by decide +kernel
theorem dX13_linesOut_331 : decode cX13_linesOut 331 = .ok (.invokestatic 210, 3) := by decide +kernel
theorem dX13_linesOut_334 : decode cX13_linesOut 334 = .ok (.goto 15, 3) := by decide +kernel
theorem dX13_linesOut_337 : decode cX13_linesOut 337 = .ok (.aload_n 0, 1) := by decide +kernel
theorem dX13_linesOut_338 : decode cX13_linesOut 338 = .ok (.getfield 54, 3) := by decide +kernel
theorem dX13_linesOut_341 : decode cX13_linesOut 341 = .ok (.bipush 11, 2) := by decide +kernel
theorem dX13_linesOut_343 : decode cX13_linesOut 343 = .ok (.iaload, 1) := by decide +kernel
theorem dX13_linesOut_344 : decode cX13_linesOut 344 = .ok (.iload_n 1, 1) := by decide +kernel
theorem dX13_linesOut_345 : decode cX13_linesOut 345 = .ok (.iload_n 2, 1) := by decide +kernel
theorem dX13_linesOut_346 : decode cX13_linesOut 346 = .ok (.invokestatic 251, 3) := by decide +kernel
theorem dX13_linesOut_349 : decode cX13_linesOut 349 = .ok (.iastore, 1) := by decide +kernel
theorem dX13_linesOut_350 : decode cX13_linesOut 350 = .ok (.iconst 0, 1) := by decide +kernel
theorem dX13_linesOut_351 : decode cX13_linesOut 351 = .ok (.istore 4, 2) := by decide +kernel
theorem dX13_linesOut_353 : decode cX13_linesOut 353 = .ok (.iload 4, 2) := by decide +kernel
theorem dX13_linesOut_355 : decode cX13_linesOut 355 = .ok (.sipush 1968, 3) := by decide +kernel
theorem dX13_linesOut_358 : decode cX13_linesOut 358 = .ok (.if_icmp .ge 28, 3) := by decide +kernel
theorem dX13_linesOut_361 : decode cX13_linesOut 361 = .ok (.aload_n 0, 1) := by decide +kernel
theorem dX13_linesOut_362 : decode cX13_linesOut 362 = .ok (.getfield 148, 3) := by decide +kernel
theorem dX13_linesOut_365 : decode cX13_linesOut 365 = .ok (.iload 4, 2) := by decide +kernel
theorem dX13_linesOut_367 : decode cX13_linesOut 367 = .ok (.aload_n 0, 1) := by decide +kernel
theorem dX13_linesOut_368 : decode cX13_linesOut 368 = .ok (.getfield 148, 3) := by decide +kernel
theorem dX13_linesOut_371 : decode cX13_linesOut 371 = .ok (.iload 4, 2) := by decide +kernel
theorem dX13_linesOut_373 : decode cX13_linesOut 373 = .ok (.iaload, 1) := by decide +kernel
theorem dX13_linesOut_374 : decode cX13_linesOut 374 = .ok (.iload_n 1, 1) := by decide +kernel
theorem dX13_linesOut_375 : decode cX13_linesOut 375 = .ok (.iload_n 2, 1) := by decide +kernel
theorem dX13_linesOut_376 : decode cX13_linesOut 376 = .ok (.invokestatic 251, 3) := by decide +kernel
theorem dX13_linesOut_379 : decode cX13_linesOut 379 = .ok (.iastore, 1) := by decide +kernel
theorem dX13_linesOut_380 : decode cX13_linesOut 380 = .ok (.iinc 4 1, 3) := by decide +kernel
theorem dX13_linesOut_383 : decode cX13_linesOut 383 = .ok (.goto (-30), 3) := by decide +kernel
theorem dX13_linesOut_386 : decode cX13_linesOut 386 = .ok (.return_, 1) := by decide +kernel
theorem dX13_takesLines_0 : decode cX13_takesLines 0 = .ok (.iload_n 2, 1) := by decide +kernel
theorem dX13_takesLines_1 : decode cX13_takesLines 1 = .ok (.iload_n 1, 1) := by decide +kernel
theorem dX13_takesLines_2 : decode cX13_takesLines 2 = .ok (.isub, 1) := by decide +kernel
theorem dX13_takesLines_3 : decode cX13_takesLines 3 = .ok (.iconst 1, 1) := by decide +kernel
theorem dX13_takesLines_4 : decode cX13_takesLines 4 = .ok (.iadd, 1) := by decide +kernel
theorem dX13_takesLines_5 : decode cX13_takesLines 5 = .ok (.istore_n 3, 1) := by decide +kernel
theorem dX13_takesLines_6 : decode cX13_takesLines 6 = .ok (.iload_n 2, 1) := by decide +kernel
theorem dX13_takesLines_7 : decode cX13_takesLines 7 = .ok (.iconst 1, 1) := by decide +kernel
theorem dX13_takesLines_8 : decode cX13_takesLines 8 = .ok (.iadd, 1) := by decide +kernel
theorem dX13_takesLines_9 : decode cX13_takesLines 9 = .ok (.istore 4, 2) := by decide +kernel
theorem dX13_takesLines_11 : decode cX13_takesLines 11 = .ok (.iload 4, 2) := by decide +kernel
theorem dX13_takesLines_13 : decode cX13_takesLines 13 = .ok (.aload_n 0, 1) := by decide +kernel
theorem dX13_takesLines_14 : decode cX13_takesLines 14 = .ok (.getfield 13, 3) := by decide +kernel
theorem dX13_takesLines_17 : decode cX13_takesLines 17 = .ok (.if_icmp .ge 19, 3) := by decide +kernel
theorem dX13_takesLines_20 : decode cX13_takesLines 20 = .ok (.aload_n 0, 1) := by decide +kernel
theorem dX13_takesLines_21 : decode cX13_takesLines 21 = .ok (.iload 4, 2) := by decide +kernel
theorem dX13_takesLines_23 : decode cX13_takesLines 23 = .ok (.iload 4, 2) := by decide +kernel
theorem dX13_takesLines_25 : decode cX13_takesLines 25 = .ok (.iload_n 3, 1) := by decide +kernel
theorem dX13_takesLines_26 : decode cX13_takesLines 26 = .ok (.isub, 1) := by decide +kernel
theorem dX13_takesLines_27 : decode cX13_takesLines 27 = .ok (.invokevirtual 263, 3) := by decide +kernel
theorem dX13_takesLines_30 : decode cX13_takesLines 30 = .ok (.iinc 4 1, 3) := by decide +kernel
theorem dX13_takesLines_33 : decode cX13_takesLines 33 = .ok (.goto (-22), 3) := by decide +kernel
theorem dX13_takesLines_36 : decode cX13_takesLines 36 = .ok (.aload_n 0, 1) := by decide +kernel
theorem dX13_takesLines_37 : decode cX13_takesLines 37 = .ok (.dup, 1) := by decide +kernel
theorem dX13_takesLines_38 : decode cX13_takesLines 38 = .ok (.getfield 13, 3) := by decide +kernel
theorem dX13_takesLines_41 : decode cX13_takesLines 41 = .ok (.iload_n 3, 1) := by decide +kernel
theorem dX13_takesLines_42 : decode cX13_takesLines 42 = .ok (.isub, 1) := by decide +kernel
theorem dX13_takesLines_43 : decode cX13_takesLines 43 = .ok (.putfield 13, 3) := by decide +kernel
theorem dX13_takesLines_46 : decode cX13_takesLines 46 = .ok (.aload_n 0, 1) := by decide +kernel
theorem dX13_takesLines_47 : decode cX13_takesLines 47 = .ok (.iload_n 1, 1) := by decide +kernel
theorem dX13_takesLines_48 : decode cX13_takesLines 48 = .ok (.iload_n 2, 1) := by decide +kernel
theorem dX13_takesLines_49 : decode cX13_takesLines 49 = .ok (.invokevirtual 266, 3) := by decide +kernel
theorem dX13_takesLines_52 : decode cX13_takesLines 52 = .ok (.aload_n 0, 1) := by decide +kernel
theorem dX13_takesLines_53 : decode cX13_takesLines 53 = .ok (.getfield 13, 3) := by decide +kernel
theorem dX13_takesLines_56 : decode cX13_takesLines 56 = .ok (.ifCond .ne 15, 3) := by decide +kernel
theorem dX13_takesLines_59 : decode cX13_takesLines 59 = .ok (.aload_n 0, 1) := by decide +kernel
theorem dX13_takesLines_60 : decode cX13_takesLines 60 = .ok (.iconst 1, 1) := by decide +kernel
theorem dX13_takesLines_61 : decode cX13_takesLines 61 = .ok (.putfield 13, 3) := by decide +kernel
theorem dX13_takesLines_64 : decode cX13_takesLines 64 = .ok (.aload_n 0, 1) := by decide +kernel
theorem dX13_takesLines_65 : decode cX13_takesLines 65 = .ok (.getfield 17, 3) := by decide +kernel
theorem dX13_takesLines_68 : decode cX13_takesLines 68 = .ok (.iconst 0, 1) := by decide +kernel
theorem dX13_takesLines_69 : decode cX13_takesLines 69 = .ok (.iconst 0, 1) := by decide +kernel
theorem dX13_takesLines_70 : decode cX13_takesLines 70 = .ok (.iastore, 1) := by decide +kernel
theorem dX13_takesLines_71 : decode cX13_takesLines 71 = .ok (.return_, 1) := by decide +kernel
theorem dX13_putsLines_0 : decode cX13_putsLines 0 = .ok (.aload_n 0, 1) := by decide +kernel
theorem dX13_putsLines_1 : decode cX13_putsLines 1 = .ok (.getfield 13, 3) := by decide +kernel
theorem dX13_putsLines_4 : decode cX13_putsLines 4 = .ok (.iconst 1, 1) := by decide +kernel
theorem dX13_putsLines_5 : decode cX13_putsLines 5 = .ok (.isub, 1) := by decide +kernel
theorem dX13_putsLines_6 : decode cX13_putsLines 6 = .ok (.istore_n 3, 1) := by decide +kernel
theorem dX13_putsLines_7 : decode cX13_putsLines 7 = .ok (.iload_n 3, 1) := by decide +kernel
theorem dX13_putsLines_8 : decode cX13_putsLines 8 = .ok (.iload_n 1, 1) := by decide +kernel
theorem dX13_putsLines_9 : decode cX13_putsLines 9 = .ok (.if_icmp .lt 17, 3) := by decide +kernel
theorem dX13_putsLines_12 : decode cX13_putsLines 12 = .ok (.aload_n 0, 1) := by decide +kernel
theorem dX13_putsLines_13 : decode cX13_putsLines 13 = .ok (.iload_n 3, 1) := by decide +kernel
theorem dX13_putsLines_14 : decode cX13_putsLines 14 = .ok (.iload_n 3, 1) := by decide +kernel
theorem dX13_putsLines_15 : decode cX13_putsLines 15 = .ok (.iload_n 2, 1) := by decide +kernel
theorem dX13_putsLines_16 : decode cX13_putsLines 16 = .ok (.iadd, 1) := by decide +kernel
theorem dX13_putsLines_17 : decode cX13_putsLines 17 = .ok (.invokevirtual 263, 3) := by decide +kernel
theorem dX13_putsLines_20 : decode cX13_putsLines 20 = .ok (.iinc 3 (-1), 3) := by decide +kernel
theorem dX13_putsLines_23 : decode cX13_putsLines 23 = .ok (.goto (-16), 3) := by decide +kernel
theorem dX13_putsLines_26 : decode cX13_putsLines 26 = .ok (.iload_n 1, 1) := by decide +kernel
theorem dX13_putsLines_27 : decode cX13_putsLines 27 = .ok (.istore_n 3, 1) := by decide +kernel
theorem dX13_putsLines_28 : decode cX13_putsLines 28 = .ok (.iload_n 3, 1) := by decide +kernel
theorem dX13_putsLines_29 : decode cX13_putsLines 29 = .ok (.iload_n 1, 1) := by decide +kernel
theorem dX13_putsLines_30 : decode cX13_putsLines 30 = .ok (.iload_n 2, 1) := by decide +kernel
theorem dX13_putsLines_31 : decode cX13_putsLines 31 = .ok (.iadd, 1) := by decide +kernel
theorem dX13_putsLines_32 : decode cX13_putsLines 32 = .ok (.if_icmp .ge 16, 3) := by decide +kernel
theorem dX13_putsLines_35 : decode cX13_putsLines 35 = .ok (.aload_n 0, 1) := by decide +kernel
theorem dX13_putsLines_36 : decode cX13_putsLines 36 = .ok (.getfield 17, 3) := by decide +kernel
theorem dX13_putsLines_39 : decode cX13_putsLines 39 = .ok (.iload_n 3, 1) := by decide +kernel
theorem dX13_putsLines_40 : decode cX13_putsLines 40 = .ok (.iconst 0, 1) := by decide +kernel
theorem dX13_putsLines_41 : decode cX13_putsLines 41 = .ok (.iastore, 1) := by decide +kernel
theorem dX13_putsLines_42 : decode cX13_putsLines 42 = .ok (.iinc 3 1, 3) := by decide +kernel
theorem dX13_putsLines_45 : decode cX13_putsLines 45 = .ok (.goto (-17), 3) := by decide +kernel
theorem dX13_putsLines_48 : decode cX13_putsLines 48 = .ok (.aload_n 0, 1) := by decide +kernel
theorem dX13_putsLines_49 : decode cX13_putsLines 49 = .ok (.dup, 1) := by decide +kernel
theorem dX13_putsLines_50 : decode cX13_putsLines 50 = .ok (.getfield 13, 3) := by decide +kernel
theorem dX13_putsLines_53 : decode cX13_putsLines 53 = .ok (.iload_n 2, 1) := by decide +kernel
theorem dX13_putsLines_54 : decode cX13_putsLines 54 = .ok (.iadd, 1) := by decide +kernel
theorem dX13_putsLines_55 : decode cX13_putsLines 55 = .ok (.putfield 13, 3) := by decide +kernel
theorem dX13_putsLines_58 : decode cX13_putsLines 58 = .ok (.aload_n 0, 1) := by decide +kernel
theorem dX13_putsLines_59 : decode cX13_putsLines 59 = .ok (.iload_n 1, 1) := by decide +kernel
theorem dX13_putsLines_60 : decode cX13_putsLines 60 = .ok (.iload_n 2, 1) := by decide +kernel
theorem dX13_putsLines_61 : decode cX13_putsLines 61 = .ok (.invokevirtual 269, 3) := by decide +kernel
theorem dX13_putsLines_64 : decode cX13_putsLines 64 = .ok (.return_, 1) := by decide +kernel
theorem dX13_fitsWithout_0 : decode cX13_fitsWithout 0 = .ok (.iload_n 2, 1) := by decide +kernel
theorem dX13_fitsWithout_1 : decode cX13_fitsWithout 1 = .ok (.aload_n 0, 1) := by decide +kernel
theorem dX13_fitsWithout_2 : decode cX13_fitsWithout 2 = .ok (.getfield 17, 3) := by decide +kernel
theorem dX13_fitsWithout_5 : decode cX13_fitsWithout 5 = .ok (.iload_n 3, 1) := by decide +kernel
theorem dX13_fitsWithout_6 : decode cX13_fitsWithout 6 = .ok (.iaload, 1) := by decide +kernel
theorem dX13_fitsWithout_7 : decode cX13_fitsWithout 7 = .ok (.iadd, 1) := by decide +kernel
theorem dX13_fitsWithout_8 : decode cX13_fitsWithout 8 = .ok (.iload 4, 2) := by decide +kernel
theorem dX13_fitsWithout_10 : decode cX13_fitsWithout 10 = .ok (.isub, 1) := by decide +kernel
theorem dX13_fitsWithout_11 : decode cX13_fitsWithout 11 = .ok (.bipush 60, 2) := by decide +kernel
theorem dX13_fitsWithout_13 : decode cX13_fitsWithout 13 = .ok (.if_icmp .gt 7, 3) := by decide +kernel
theorem dX13_fitsWithout_16 : decode cX13_fitsWithout 16 = .ok (.iconst 1, 1) := by decide +kernel
theorem dX13_fitsWithout_17 : decode cX13_fitsWithout 17 = .ok (.goto 4, 3) := by decide +kernel
theorem dX13_fitsWithout_20 : decode cX13_fitsWithout 20 = .ok (.iconst 0, 1) := by decide +kernel
theorem dX13_fitsWithout_21 : decode cX13_fitsWithout 21 = .ok (.ireturn, 1) := by decide +kernel
theorem dX13_takesSigns_0 : decode cX13_takesSigns 0 = .ok (.aload_n 0, 1) := by decide +kernel
theorem dX13_takesSigns_1 : decode cX13_takesSigns 1 = .ok (.getfield 17, 3) := by decide +kernel
theorem dX13_takesSigns_4 : decode cX13_takesSigns 4 = .ok (.iload_n 3, 1) := by decide +kernel
theorem dX13_takesSigns_5 : decode cX13_takesSigns 5 = .ok (.iaload, 1) := by decide +kernel
theorem dX13_takesSigns_6 : decode cX13_takesSigns 6 = .ok (.iload 4, 2) := by decide +kernel
theorem dX13_takesSigns_8 : decode cX13_takesSigns 8 = .ok (.isub, 1) := by decide +kernel
theorem dX13_takesSigns_9 : decode cX13_takesSigns 9 = .ok (.istore 5, 2) := by decide +kernel
theorem dX13_takesSigns_11 : decode cX13_takesSigns 11 = .ok (.iconst 0, 1) := by decide +kernel
theorem dX13_takesSigns_12 : decode cX13_takesSigns 12 = .ok (.istore 6, 2) := by decide +kernel
theorem dX13_takesSigns_14 : decode cX13_takesSigns 14 = .ok (.iload 6, 2) := by decide +kernel
theorem dX13_takesSigns_16 : decode cX13_takesSigns 16 = .ok (.iload 5, 2) := by decide +kernel
theorem dX13_takesSigns_18 : decode cX13_takesSigns 18 = .ok (.if_icmp .ge 38, 3) := by decide +kernel
theorem dX13_takesSigns_21 : decode cX13_takesSigns 21 = .ok (.aload_n 0, 1) := by decide +kernel
theorem dX13_takesSigns_22 : decode cX13_takesSigns 22 = .ok (.getfield 20, 3) := by decide +kernel
theorem dX13_takesSigns_25 : decode cX13_takesSigns 25 = .ok (.bipush 60, 2) := by decide +kernel
theorem dX13_takesSigns_27 : decode cX13_takesSigns 27 = .ok (.iload_n 1, 1) := by decide +kernel
theorem dX13_takesSigns_28 : decode cX13_takesSigns 28 = .ok (.imul, 1) := by decide +kernel
theorem dX13_takesSigns_29 : decode cX13_takesSigns 29 = .ok (.iload_n 2, 1) := by decide +kernel
theorem dX13_takesSigns_30 : decode cX13_takesSigns 30 = .ok (.iadd, 1) := by decide +kernel
theorem dX13_takesSigns_31 : decode cX13_takesSigns 31 = .ok (.iload 6, 2) := by decide +kernel
theorem dX13_takesSigns_33 : decode cX13_takesSigns 33 = .ok (.iadd, 1) := by decide +kernel
theorem dX13_takesSigns_34 : decode cX13_takesSigns 34 = .ok (.aload_n 0, 1) := by decide +kernel
theorem dX13_takesSigns_35 : decode cX13_takesSigns 35 = .ok (.getfield 20, 3) := by decide +kernel
theorem dX13_takesSigns_38 : decode cX13_takesSigns 38 = .ok (.bipush 60, 2) := by decide +kernel
theorem dX13_takesSigns_40 : decode cX13_takesSigns 40 = .ok (.iload_n 3, 1) := by decide +kernel
theorem dX13_takesSigns_41 : decode cX13_takesSigns 41 = .ok (.imul, 1) := by decide +kernel
theorem dX13_takesSigns_42 : decode cX13_takesSigns 42 = .ok (.iload 4, 2) := by decide +kernel
theorem dX13_takesSigns_44 : decode cX13_takesSigns 44 = .ok (.iadd, 1) := by decide +kernel
theorem dX13_takesSigns_45 : decode cX13_takesSigns 45 = .ok (.iload 6, 2) := by decide +kernel
theorem dX13_takesSigns_47 : decode cX13_takesSigns 47 = .ok (.iadd, 1) := by decide +kernel
theorem dX13_takesSigns_48 : decode cX13_takesSigns 48 = .ok (.iaload, 1) := by decide +kernel
theorem dX13_takesSigns_49 : decode cX13_takesSigns 49 = .ok (.iastore, 1) := by decide +kernel
theorem dX13_takesSigns_50 : decode cX13_takesSigns 50 = .ok (.iinc 6 1, 3) := by decide +kernel
theorem dX13_takesSigns_53 : decode cX13_takesSigns 53 = .ok (.goto (-39), 3) := by decide +kernel
theorem dX13_takesSigns_56 : decode cX13_takesSigns 56 = .ok (.aload_n 0, 1) := by decide +kernel
theorem dX13_takesSigns_57 : decode cX13_takesSigns 57 = .ok (.getfield 17, 3) := by decide +kernel
theorem dX13_takesSigns_60 : decode cX13_takesSigns 60 = .ok (.iload_n 1, 1) := by decide +kernel
theorem dX13_takesSigns_61 : decode cX13_takesSigns 61 = .ok (.iload_n 2, 1) := by decide +kernel
theorem dX13_takesSigns_62 : decode cX13_takesSigns 62 = .ok (.iload 5, 2) := by decide +kernel
theorem dX13_takesSigns_64 : decode cX13_takesSigns 64 = .ok (.iadd, 1) := by decide +kernel
theorem dX13_takesSigns_65 : decode cX13_takesSigns 65 = .ok (.iastore, 1) := by decide +kernel
theorem dX13_takesSigns_66 : decode cX13_takesSigns 66 = .ok (.iload_n 3, 1) := by decide +kernel
theorem dX13_takesSigns_67 : decode cX13_takesSigns 67 = .ok (.iload_n 1, 1) := by decide +kernel
theorem dX13_takesSigns_68 : decode cX13_takesSigns 68 = .ok (.if_icmp .le 11, 3) := by decide +kernel
theorem dX13_takesSigns_71 : decode cX13_takesSigns 71 = .ok (.aload_n 0, 1) := by decide +kernel
theorem dX13_takesSigns_72 : decode cX13_takesSigns 72 = .ok (.iload_n 1, 1) := by decide +kernel
theorem dX13_takesSigns_73 : decode cX13_takesSigns 73 = .ok (.iconst 1, 1) := by decide +kernel
theorem dX13_takesSigns_74 : decode cX13_takesSigns 74 = .ok (.iadd, 1) := by decide +kernel
theorem dX13_takesSigns_75 : decode cX13_takesSigns 75 = .ok (.iload_n 3, 1) := by decide +kernel
theorem dX13_takesSigns_76 : decode cX13_takesSigns 76 = .ok (.invokevirtual 272, 3) := by decide +kernel
theorem dX13_takesSigns_79 : decode cX13_takesSigns 79 = .ok (.return_, 1) := by decide +kernel
theorem dX13_endsIn_0 : decode cX13_endsIn 0 = .ok (.iconst 0, 1) := by decide +kernel
theorem dX13_endsIn_1 : decode cX13_endsIn 1 = .ok (.istore_n 2, 1) := by decide +kernel
theorem dX13_endsIn_2 : decode cX13_endsIn 2 = .ok (.iconst 0, 1) := by decide +kernel
theorem dX13_endsIn_3 : decode cX13_endsIn 3 = .ok (.istore_n 3, 1) := by decide +kernel
theorem dX13_endsIn_4 : decode cX13_endsIn 4 = .ok (.iload_n 3, 1) := by decide +kernel
theorem dX13_endsIn_5 : decode cX13_endsIn 5 = .ok (.iload_n 1, 1) := by decide +kernel
theorem dX13_endsIn_6 : decode cX13_endsIn 6 = .ok (.if_icmp .ge 28, 3) := by decide +kernel
theorem dX13_endsIn_9 : decode cX13_endsIn 9 = .ok (.iload_n 2, 1) := by decide +kernel
theorem dX13_endsIn_10 : decode cX13_endsIn 10 = .ok (.aload_n 0, 1) := by decide +kernel
theorem dX13_endsIn_11 : decode cX13_endsIn 11 = .ok (.getfield 83, 3) := by decide +kernel
theorem dX13_endsIn_14 : decode cX13_endsIn 14 = .ok (.iload_n 3, 1) := by decide +kernel
theorem dX13_endsIn_15 : decode cX13_endsIn 15 = .ok (.iaload, 1) := by decide +kernel
theorem dX13_endsIn_16 : decode cX13_endsIn 16 = .ok (.bipush 10, 2) := by decide +kernel
theorem dX13_endsIn_18 : decode cX13_endsIn 18 = .ok (.if_icmp .ne 7, 3) := by decide +kernel
theorem dX13_endsIn_21 : decode cX13_endsIn 21 = .ok (.iconst 1, 1) := by decide +kernel
theorem dX13_endsIn_22 : decode cX13_endsIn 22 = .ok (.goto 4, 3) := by decide +kernel
theorem dX13_endsIn_25 : decode cX13_endsIn 25 = .ok (.iconst 0, 1) := by decide +kernel
theorem dX13_endsIn_26 : decode cX13_endsIn 26 = .ok (.iadd, 1) := by decide +kernel
theorem dX13_endsIn_27 : decode cX13_endsIn 27 = .ok (.istore_n 2, 1) := by decide +kernel
theorem dX13_endsIn_28 : decode cX13_endsIn 28 = .ok (.iinc 3 1, 3) := by decide +kernel
theorem dX13_endsIn_31 : decode cX13_endsIn 31 = .ok (.goto (-27), 3) := by decide +kernel
theorem dX13_endsIn_34 : decode cX13_endsIn 34 = .ok (.iload_n 2, 1) := by decide +kernel
theorem dX13_endsIn_35 : decode cX13_endsIn 35 = .ok (.ireturn, 1) := by decide +kernel
theorem dX13_fitsSigns_0 : decode cX13_fitsSigns 0 = .ok (.aload_n 0, 1) := by decide +kernel
theorem dX13_fitsSigns_1 : decode cX13_fitsSigns 1 = .ok (.iload_n 3, 1) := by decide +kernel
theorem dX13_fitsSigns_2 : decode cX13_fitsSigns 2 = .ok (.invokevirtual 275, 3) := by decide +kernel
theorem dX13_fitsSigns_5 : decode cX13_fitsSigns 5 = .ok (.istore 4, 2) := by decide +kernel
theorem dX13_fitsSigns_7 : decode cX13_fitsSigns 7 = .ok (.iload_n 2, 1) := by decide +kernel
theorem dX13_fitsSigns_8 : decode cX13_fitsSigns 8 = .ok (.istore 5, 2) := by decide +kernel
theorem dX13_fitsSigns_10 : decode cX13_fitsSigns 10 = .ok (.aload_n 0, 1) := by decide +kernel
theorem dX13_fitsSigns_11 : decode cX13_fitsSigns 11 = .ok (.getfield 13, 3) := by decide +kernel
theorem dX13_fitsSigns_14 : decode cX13_fitsSigns 14 = .ok (.iload 4, 2) := by decide +kernel
theorem dX13_fitsSigns_16 : decode cX13_fitsSigns 16 = .ok (.iadd, 1) := by decide +kernel
theorem dX13_fitsSigns_17 : decode cX13_fitsSigns 17 = .ok (.bipush 40, 2) := by decide +kernel
theorem dX13_fitsSigns_19 : decode cX13_fitsSigns 19 = .ok (.if_icmp .gt 7, 3) := by decide +kernel
theorem dX13_fitsSigns_22 : decode cX13_fitsSigns 22 = .ok (.iconst 1, 1) := by decide +kernel
theorem dX13_fitsSigns_23 : decode cX13_fitsSigns 23 = .ok (.goto 4, 3) := by decide +kernel
theorem dX13_fitsSigns_26 : decode cX13_fitsSigns 26 = .ok (.iconst 0, 1) := by decide +kernel
theorem dX13_fitsSigns_27 : decode cX13_fitsSigns 27 = .ok (.istore 6, 2) := by decide +kernel
theorem dX13_fitsSigns_29 : decode cX13_fitsSigns 29 = .ok (.iconst 0, 1) := by decide +kernel
theorem dX13_fitsSigns_30 : decode cX13_fitsSigns 30 = .ok (.istore 7, 2) := by decide +kernel
theorem dX13_fitsSigns_32 : decode cX13_fitsSigns 32 = .ok (.iload 7, 2) := by decide +kernel
theorem dX13_fitsSigns_34 : decode cX13_fitsSigns 34 = .ok (.iload_n 3, 1) := by decide +kernel
theorem dX13_fitsSigns_35 : decode cX13_fitsSigns 35 = .ok (.if_icmp .ge 75, 3) := by decide +kernel
theorem dX13_fitsSigns_38 : decode cX13_fitsSigns 38 = .ok (.iload 6, 2) := by decide +kernel
theorem dX13_fitsSigns_40 : decode cX13_fitsSigns 40 = .ok (.ifCond .eq 70, 3) := by decide +kernel
theorem dX13_fitsSigns_43 : decode cX13_fitsSigns 43 = .ok (.aload_n 0, 1) := by decide +kernel
theorem dX13_fitsSigns_44 : decode cX13_fitsSigns 44 = .ok (.getfield 83, 3) := by decide +kernel
theorem dX13_fitsSigns_47 : decode cX13_fitsSigns 47 = .ok (.iload 7, 2) := by decide +kernel
theorem dX13_fitsSigns_49 : decode cX13_fitsSigns 49 = .ok (.iaload, 1) := by decide +kernel
theorem dX13_fitsSigns_50 : decode cX13_fitsSigns 50 = .ok (.bipush 10, 2) := by decide +kernel
theorem dX13_fitsSigns_52 : decode cX13_fitsSigns 52 = .ok (.if_icmp .ne 7, 3) := by decide +kernel
theorem dX13_fitsSigns_55 : decode cX13_fitsSigns 55 = .ok (.iconst 0, 1) := by decide +kernel
theorem dX13_fitsSigns_56 : decode cX13_fitsSigns 56 = .ok (.goto 7, 3) := by decide +kernel
theorem dX13_fitsSigns_59 : decode cX13_fitsSigns 59 = .ok (.iload 5, 2) := by decide +kernel
theorem dX13_fitsSigns_61 : decode cX13_fitsSigns 61 = .ok (.iconst 1, 1) := by decide +kernel
theorem dX13_fitsSigns_62 : decode cX13_fitsSigns 62 = .ok (.iadd, 1) := by decide +kernel
theorem dX13_fitsSigns_63 : decode cX13_fitsSigns 63 = .ok (.istore 5, 2) := by decide +kernel
theorem dX13_fitsSigns_65 : decode cX13_fitsSigns 65 = .ok (.iload 5, 2) := by decide +kernel
theorem dX13_fitsSigns_67 : decode cX13_fitsSigns 67 = .ok (.bipush 60, 2) := by decide +kernel
theorem dX13_fitsSigns_69 : decode cX13_fitsSigns 69 = .ok (.if_icmp .gt 32, 3) := by decide +kernel
theorem dX13_fitsSigns_72 : decode cX13_fitsSigns 72 = .ok (.aload_n 0, 1) := by decide +kernel
theorem dX13_fitsSigns_73 : decode cX13_fitsSigns 73 = .ok (.getfield 83, 3) := by decide +kernel
theorem dX13_fitsSigns_76 : decode cX13_fitsSigns 76 = .ok (.iload 7, 2) := by decide +kernel
theorem dX13_fitsSigns_78 : decode cX13_fitsSigns 78 = .ok (.iaload, 1) := by decide +kernel
theorem dX13_fitsSigns_79 : decode cX13_fitsSigns 79 = .ok (.bipush 10, 2) := by decide +kernel
theorem dX13_fitsSigns_81 : decode cX13_fitsSigns 81 = .ok (.if_icmp .eq 16, 3) := by decide +kernel
theorem dX13_fitsSigns_84 : decode cX13_fitsSigns 84 = .ok (.aload_n 0, 1) := by decide +kernel
theorem dX13_fitsSigns_85 : decode cX13_fitsSigns 85 = .ok (.getfield 83, 3) := by decide +kernel
theorem dX13_fitsSigns_88 : decode cX13_fitsSigns 88 = .ok (.iload 7, 2) := by decide +kernel
theorem dX13_fitsSigns_90 : decode cX13_fitsSigns 90 = .ok (.iaload, 1) := by decide +kernel
theorem dX13_fitsSigns_91 : decode cX13_fitsSigns 91 = .ok (.invokestatic 202, 3) := by decide +kernel
theorem dX13_fitsSigns_94 : decode cX13_fitsSigns 94 = .ok (.ifCond .eq 7, 3) := by decide +kernel
theorem dX13_fitsSigns_97 : decode cX13_fitsSigns 97 = .ok (.iconst 1, 1) := by decide +kernel
theorem dX13_fitsSigns_98 : decode cX13_fitsSigns 98 = .ok (.goto 4, 3) := by decide +kernel
theorem dX13_fitsSigns_101 : decode cX13_fitsSigns 101 = .ok (.iconst 0, 1) := by decide +kernel
theorem dX13_fitsSigns_102 : decode cX13_fitsSigns 102 = .ok (.istore 6, 2) := by decide +kernel
theorem dX13_fitsSigns_104 : decode cX13_fitsSigns 104 = .ok (.iinc 7 1, 3) := by decide +kernel
theorem dX13_fitsSigns_107 : decode cX13_fitsSigns 107 = .ok (.goto (-75), 3) := by decide +kernel
theorem dX13_fitsSigns_110 : decode cX13_fitsSigns 110 = .ok (.iload 6, 2) := by decide +kernel
theorem dX13_fitsSigns_112 : decode cX13_fitsSigns 112 = .ok (.ifCond .eq 23, 3) := by decide +kernel
theorem dX13_fitsSigns_115 : decode cX13_fitsSigns 115 = .ok (.iload 5, 2) := by decide +kernel
theorem dX13_fitsSigns_117 : decode cX13_fitsSigns 117 = .ok (.aload_n 0, 1) := by decide +kernel
theorem dX13_fitsSigns_118 : decode cX13_fitsSigns 118 = .ok (.getfield 17, 3) := by decide +kernel
theorem dX13_fitsSigns_121 : decode cX13_fitsSigns 121 = .ok (.iload_n 1, 1) := by decide +kernel
theorem dX13_fitsSigns_122 : decode cX13_fitsSigns 122 = .ok (.iaload, 1) := by decide +kernel
theorem dX13_fitsSigns_123 : decode cX13_fitsSigns 123 = .ok (.iadd, 1) := by decide +kernel
theorem dX13_fitsSigns_124 : decode cX13_fitsSigns 124 = .ok (.iload_n 2, 1) := by decide +kernel
theorem dX13_fitsSigns_125 : decode cX13_fitsSigns 125 = .ok (.isub, 1) := by decide +kernel
theorem dX13_fitsSigns_126 : decode cX13_fitsSigns 126 = .ok (.bipush 60, 2) := by decide +kernel
theorem dX13_fitsSigns_128 : decode cX13_fitsSigns 128 = .ok (.if_icmp .gt 7, 3) := by decide +kernel
theorem dX13_fitsSigns_131 : decode cX13_fitsSigns 131 = .ok (.iconst 1, 1) := by decide +kernel
theorem dX13_fitsSigns_132 : decode cX13_fitsSigns 132 = .ok (.goto 4, 3) := by decide +kernel
theorem dX13_fitsSigns_135 : decode cX13_fitsSigns 135 = .ok (.iconst 0, 1) := by decide +kernel
theorem dX13_fitsSigns_136 : decode cX13_fitsSigns 136 = .ok (.ireturn, 1) := by decide +kernel
theorem dX13_putsSigns_0 : decode cX13_putsSigns 0 = .ok (.aload_n 0, 1) := by decide +kernel
theorem dX13_putsSigns_1 : decode cX13_putsSigns 1 = .ok (.iload_n 3, 1) := by decide +kernel
theorem dX13_putsSigns_2 : decode cX13_putsSigns 2 = .ok (.invokevirtual 275, 3) := by decide +kernel
theorem dX13_putsSigns_5 : decode cX13_putsSigns 5 = .ok (.istore 4, 2) := by decide +kernel
theorem dX13_putsSigns_7 : decode cX13_putsSigns 7 = .ok (.aload_n 0, 1) := by decide +kernel
theorem dX13_putsSigns_8 : decode cX13_putsSigns 8 = .ok (.getfield 17, 3) := by decide +kernel
theorem dX13_putsSigns_11 : decode cX13_putsSigns 11 = .ok (.iload_n 1, 1) := by decide +kernel
theorem dX13_putsSigns_12 : decode cX13_putsSigns 12 = .ok (.iaload, 1) := by decide +kernel
theorem dX13_putsSigns_13 : decode cX13_putsSigns 13 = .ok (.iload_n 2, 1) := by decide +kernel
theorem dX13_putsSigns_14 : decode cX13_putsSigns 14 = .ok (.isub, 1) := by decide +kernel
theorem dX13_putsSigns_15 : decode cX13_putsSigns 15 = .ok (.istore 5, 2) := by decide +kernel
theorem dX13_putsSigns_17 : decode cX13_putsSigns 17 = .ok (.iconst 0, 1) := by decide +kernel
theorem dX13_putsSigns_18 : decode cX13_putsSigns 18 = .ok (.istore 6, 2) := by decide +kernel
theorem dX13_putsSigns_20 : decode cX13_putsSigns 20 = .ok (.iload 6, 2) := by decide +kernel
theorem dX13_putsSigns_22 : decode cX13_putsSigns 22 = .ok (.iload 5, 2) := by decide +kernel
theorem dX13_putsSigns_24 : decode cX13_putsSigns 24 = .ok (.if_icmp .ge 30, 3) := by decide +kernel
theorem dX13_putsSigns_27 : decode cX13_putsSigns 27 = .ok (.aload_n 0, 1) := by decide +kernel
theorem dX13_putsSigns_28 : decode cX13_putsSigns 28 = .ok (.getfield 86, 3) := by decide +kernel
theorem dX13_putsSigns_31 : decode cX13_putsSigns 31 = .ok (.iload 6, 2) := by decide +kernel
theorem dX13_putsSigns_33 : decode cX13_putsSigns 33 = .ok (.aload_n 0, 1) := by decide +kernel
theorem dX13_putsSigns_34 : decode cX13_putsSigns 34 = .ok (.getfield 20, 3) := by decide +kernel
theorem dX13_putsSigns_37 : decode cX13_putsSigns 37 = .ok (.bipush 60, 2) := by decide +kernel
theorem dX13_putsSigns_39 : decode cX13_putsSigns 39 = .ok (.iload_n 1, 1) := by decide +kernel
theorem dX13_putsSigns_40 : decode cX13_putsSigns 40 = .ok (.imul, 1) := by decide +kernel
theorem dX13_putsSigns_41 : decode cX13_putsSigns 41 = .ok (.iload_n 2, 1) := by decide +kernel
theorem dX13_putsSigns_42 : decode cX13_putsSigns 42 = .ok (.iadd, 1) := by decide +kernel
theorem dX13_putsSigns_43 : decode cX13_putsSigns 43 = .ok (.iload 6, 2) := by decide +kernel
theorem dX13_putsSigns_45 : decode cX13_putsSigns 45 = .ok (.iadd, 1) := by decide +kernel
theorem dX13_putsSigns_46 : decode cX13_putsSigns 46 = .ok (.iaload, 1) := by decide +kernel
theorem dX13_putsSigns_47 : decode cX13_putsSigns 47 = .ok (.iastore, 1) := by decide +kernel
theorem dX13_putsSigns_48 : decode cX13_putsSigns 48 = .ok (.iinc 6 1, 3) := by decide +kernel
theorem dX13_putsSigns_51 : decode cX13_putsSigns 51 = .ok (.goto (-31), 3) := by decide +kernel
theorem dX13_putsSigns_54 : decode cX13_putsSigns 54 = .ok (.iload 4, 2) := by decide +kernel
theorem dX13_putsSigns_56 : decode cX13_putsSigns 56 = .ok (.ifCond .le 12, 3) := by decide +kernel
theorem dX13_putsSigns_59 : decode cX13_putsSigns 59 = .ok (.aload_n 0, 1) := by decide +kernel
theorem dX13_putsSigns_60 : decode cX13_putsSigns 60 = .ok (.iload_n 1, 1) := by decide +kernel
theorem dX13_putsSigns_61 : decode cX13_putsSigns 61 = .ok (.iconst 1, 1) := by decide +kernel
theorem dX13_putsSigns_62 : decode cX13_putsSigns 62 = .ok (.iadd, 1) := by decide +kernel
theorem dX13_putsSigns_63 : decode cX13_putsSigns 63 = .ok (.iload 4, 2) := by decide +kernel
theorem dX13_putsSigns_65 : decode cX13_putsSigns 65 = .ok (.invokevirtual 278, 3) := by decide +kernel
theorem dX13_putsSigns_68 : decode cX13_putsSigns 68 = .ok (.iload_n 1, 1) := by decide +kernel
theorem dX13_putsSigns_69 : decode cX13_putsSigns 69 = .ok (.istore 6, 2) := by decide +kernel
theorem dX13_putsSigns_71 : decode cX13_putsSigns 71 = .ok (.iload_n 2, 1) := by decide +kernel
theorem dX13_putsSigns_72 : decode cX13_putsSigns 72 = .ok (.istore 7, 2) := by decide +kernel
theorem dX13_putsSigns_74 : decode cX13_putsSigns 74 = .ok (.iconst 0, 1) := by decide +kernel
theorem dX13_putsSigns_75 : decode cX13_putsSigns 75 = .ok (.istore 8, 2) := by decide +kernel
theorem dX13_putsSigns_77 : decode cX13_putsSigns 77 = .ok (.iload 8, 2) := by decide +kernel
theorem dX13_putsSigns_79 : decode cX13_putsSigns 79 = .ok (.iload_n 3, 1) := by decide +kernel
theorem dX13_putsSigns_80 : decode cX13_putsSigns 80 = .ok (.if_icmp .ge 62, 3) := by decide +kernel
theorem dX13_putsSigns_83 : decode cX13_putsSigns 83 = .ok (.aload_n 0, 1) := by decide +kernel
theorem dX13_putsSigns_84 : decode cX13_putsSigns 84 = .ok (.getfield 83, 3) := by decide +kernel
theorem dX13_putsSigns_87 : decode cX13_putsSigns 87 = .ok (.iload 8, 2) := by decide +kernel
theorem dX13_putsSigns_89 : decode cX13_putsSigns 89 = .ok (.iaload, 1) := by decide +kernel
theorem dX13_putsSigns_90 : decode cX13_putsSigns 90 = .ok (.bipush 10, 2) := by decide +kernel
theorem dX13_putsSigns_92 : decode cX13_putsSigns 92 = .ok (.if_icmp .ne 21, 3) := by decide +kernel
theorem dX13_putsSigns_95 : decode cX13_putsSigns 95 = .ok (.aload_n 0, 1) := by decide +kernel
theorem dX13_putsSigns_96 : decode cX13_putsSigns 96 = .ok (.getfield 17, 3) := by decide +kernel
theorem dX13_putsSigns_99 : decode cX13_putsSigns 99 = .ok (.iload 6, 2) := by decide +kernel
theorem dX13_putsSigns_101 : decode cX13_putsSigns 101 = .ok (.iload 7, 2) := by decide +kernel
theorem dX13_putsSigns_103 : decode cX13_putsSigns 103 = .ok (.iastore, 1) := by decide +kernel
theorem dX13_putsSigns_104 : decode cX13_putsSigns 104 = .ok (.iinc 6 1, 3) := by decide +kernel
theorem dX13_putsSigns_107 : decode cX13_putsSigns 107 = .ok (.iconst 0, 1) := by decide +kernel
theorem dX13_putsSigns_108 : decode cX13_putsSigns 108 = .ok (.istore 7, 2) := by decide +kernel
theorem dX13_putsSigns_110 : decode cX13_putsSigns 110 = .ok (.goto 26, 3) := by decide +kernel
theorem dX13_putsSigns_113 : decode cX13_putsSigns 113 = .ok (.aload_n 0, 1) := by decide +kernel
theorem dX13_putsSigns_114 : decode cX13_putsSigns 114 = .ok (.getfield 20, 3) := by decide +kernel
theorem dX13_putsSigns_117 : decode cX13_putsSigns 117 = .ok (.bipush 60, 2) := by decide +kernel
theorem dX13_putsSigns_119 : decode cX13_putsSigns 119 = .ok (.iload 6, 2) := by decide +kernel
theorem dX13_putsSigns_121 : decode cX13_putsSigns 121 = .ok (.imul, 1) := by decide +kernel
theorem dX13_putsSigns_122 : decode cX13_putsSigns 122 = .ok (.iload 7, 2) := by decide +kernel
theorem dX13_putsSigns_124 : decode cX13_putsSigns 124 = .ok (.iadd, 1) := by decide +kernel
theorem dX13_putsSigns_125 : decode cX13_putsSigns 125 = .ok (.aload_n 0, 1) := by decide +kernel
theorem dX13_putsSigns_126 : decode cX13_putsSigns 126 = .ok (.getfield 83, 3) := by decide +kernel
theorem dX13_putsSigns_129 : decode cX13_putsSigns 129 = .ok (.iload 8, 2) := by decide +kernel
theorem dX13_putsSigns_131 : decode cX13_putsSigns 131 = .ok (.iaload, 1) := by decide +kernel
theorem dX13_putsSigns_132 : decode cX13_putsSigns 132 = .ok (.iastore, 1) := by decide +kernel
theorem dX13_putsSigns_133 : decode cX13_putsSigns 133 = .ok (.iinc 7 1, 3) := by decide +kernel
theorem dX13_putsSigns_136 : decode cX13_putsSigns 136 = .ok (.iinc 8 1, 3) := by decide +kernel
theorem dX13_putsSigns_139 : decode cX13_putsSigns 139 = .ok (.goto (-62), 3) := by decide +kernel
theorem dX13_putsSigns_142 : decode cX13_putsSigns 142 = .ok (.aload_n 0, 1) := by decide +kernel
theorem dX13_putsSigns_143 : decode cX13_putsSigns 143 = .ok (.iload 6, 2) := by decide +kernel
theorem dX13_putsSigns_145 : decode cX13_putsSigns 145 = .ok (.putfield 281, 3) := by decide +kernel
theorem dX13_putsSigns_148 : decode cX13_putsSigns 148 = .ok (.aload_n 0, 1) := by decide +kernel
theorem dX13_putsSigns_149 : decode cX13_putsSigns 149 = .ok (.iload 7, 2) := by decide +kernel
theorem dX13_putsSigns_151 : decode cX13_putsSigns 151 = .ok (.putfield 284, 3) := by decide +kernel
theorem dX13_putsSigns_154 : decode cX13_putsSigns 154 = .ok (.iconst 0, 1) := by decide +kernel
theorem dX13_putsSigns_155 : decode cX13_putsSigns 155 = .ok (.istore 8, 2) := by decide +kernel
theorem dX13_putsSigns_157 : decode cX13_putsSigns 157 = .ok (.iload 8, 2) := by decide +kernel
theorem dX13_putsSigns_159 : decode cX13_putsSigns 159 = .ok (.iload 5, 2) := by decide +kernel
theorem dX13_putsSigns_161 : decode cX13_putsSigns 161 = .ok (.if_icmp .ge 32, 3) := by decide +kernel
theorem dX13_putsSigns_164 : decode cX13_putsSigns 164 = .ok (.aload_n 0, 1) := by decide +kernel
theorem dX13_putsSigns_165 : decode cX13_putsSigns 165 = .ok (.getfield 20, 3) := by decide +kernel
theorem dX13_putsSigns_168 : decode cX13_putsSigns 168 = .ok (.bipush 60, 2) := by decide +kernel
theorem dX13_putsSigns_170 : decode cX13_putsSigns 170 = .ok (.iload 6, 2) := by decide +kernel
theorem dX13_putsSigns_172 : decode cX13_putsSigns 172 = .ok (.imul, 1) := by decide +kernel
theorem dX13_putsSigns_173 : decode cX13_putsSigns 173 = .ok (.iload 7, 2) := by decide +kernel
theorem dX13_putsSigns_175 : decode cX13_putsSigns 175 = .ok (.iadd, 1) := by decide +kernel
theorem dX13_putsSigns_176 : decode cX13_putsSigns 176 = .ok (.iload 8, 2) := by decide +kernel
theorem dX13_putsSigns_178 : decode cX13_putsSigns 178 = .ok (.iadd, 1) := by decide +kernel
theorem dX13_putsSigns_179 : decode cX13_putsSigns 179 = .ok (.aload_n 0, 1) := by decide +kernel
theorem dX13_putsSigns_180 : decode cX13_putsSigns 180 = .ok (.getfield 86, 3) := by decide +kernel
theorem dX13_putsSigns_183 : decode cX13_putsSigns 183 = .ok (.iload 8, 2) := by decide +kernel
theorem dX13_putsSigns_185 : decode cX13_putsSigns 185 = .ok (.iaload, 1) := by decide +kernel
theorem dX13_putsSigns_186 : decode cX13_putsSigns 186 = .ok (.iastore, 1) := by decide +kernel
theorem dX13_putsSigns_187 : decode cX13_putsSigns 187 = .ok (.iinc 8 1, 3) := by decide +kernel
theorem dX13_putsSigns_190 : decode cX13_putsSigns 190 = .ok (.goto (-33), 3) := by decide +kernel
theorem dX13_putsSigns_193 : decode cX13_putsSigns 193 = .ok (.aload_n 0, 1) := by decide +kernel
theorem dX13_putsSigns_194 : decode cX13_putsSigns 194 = .ok (.getfield 17, 3) := by decide +kernel
theorem dX13_putsSigns_197 : decode cX13_putsSigns 197 = .ok (.iload 6, 2) := by decide +kernel
theorem dX13_putsSigns_199 : decode cX13_putsSigns 199 = .ok (.iload 7, 2) := by decide +kernel
theorem dX13_putsSigns_201 : decode cX13_putsSigns 201 = .ok (.iload 5, 2) := by decide +kernel
theorem dX13_putsSigns_203 : decode cX13_putsSigns 203 = .ok (.iadd, 1) := by decide +kernel
theorem dX13_putsSigns_204 : decode cX13_putsSigns 204 = .ok (.iastore, 1) := by decide +kernel
theorem dX13_putsSigns_205 : decode cX13_putsSigns 205 = .ok (.return_, 1) := by decide +kernel
theorem dX13_closedAt_0 : decode cX13_closedAt 0 = .ok (.iconst (-1), 1) := by decide +kernel
theorem dX13_closedAt_1 : decode cX13_closedAt 1 = .ok (.istore_n 2, 1) := by decide +kernel
theorem dX13_closedAt_2 : decode cX13_closedAt 2 = .ok (.iconst 0, 1) := by decide +kernel
theorem dX13_closedAt_3 : decode cX13_closedAt 3 = .ok (.istore_n 3, 1) := by decide +kernel
theorem dX13_closedAt_4 : decode cX13_closedAt 4 = .ok (.iload_n 3, 1) := by decide +kernel
theorem dX13_closedAt_5 : decode cX13_closedAt 5 = .ok (.iload_n 1, 1) := by decide +kernel
theorem dX13_closedAt_6 : decode cX13_closedAt 6 = .ok (.if_icmp .gt 69, 3) := by decide +kernel
theorem dX13_closedAt_9 : decode cX13_closedAt 9 = .ok (.iload_n 2, 1) := by decide +kernel
theorem dX13_closedAt_10 : decode cX13_closedAt 10 = .ok (.iconst (-1), 1) := by decide +kernel
theorem dX13_closedAt_11 : decode cX13_closedAt 11 = .ok (.if_icmp .ne 64, 3) := by decide +kernel
theorem dX13_closedAt_14 : decode cX13_closedAt 14 = .ok (.aload_n 0, 1) := by decide +kernel
theorem dX13_closedAt_15 : decode cX13_closedAt 15 = .ok (.getfield 237, 3) := by decide +kernel
theorem dX13_closedAt_18 : decode cX13_closedAt 18 = .ok (.ifCond .le 57, 3) := by decide +kernel
theorem dX13_closedAt_21 : decode cX13_closedAt 21 = .ok (.bipush 39, 2) := by decide +kernel
theorem dX13_closedAt_23 : decode cX13_closedAt 23 = .ok (.istore 4, 2) := by decide +kernel
theorem dX13_closedAt_25 : decode cX13_closedAt 25 = .ok (.iload 4, 2) := by decide +kernel
theorem dX13_closedAt_27 : decode cX13_closedAt 27 = .ok (.iload_n 1, 1) := by decide +kernel
theorem dX13_closedAt_28 : decode cX13_closedAt 28 = .ok (.if_icmp .lt 41, 3) := by decide +kernel
theorem dX13_closedAt_31 : decode cX13_closedAt 31 = .ok (.iload_n 2, 1) := by decide +kernel
theorem dX13_closedAt_32 : decode cX13_closedAt 32 = .ok (.iconst (-1), 1) := by decide +kernel
theorem dX13_closedAt_33 : decode cX13_closedAt 33 = .ok (.if_icmp .ne 36, 3) := by decide +kernel
theorem dX13_closedAt_36 : decode cX13_closedAt 36 = .ok (.aload_n 0, 1) := by decide +kernel
theorem dX13_closedAt_37 : decode cX13_closedAt 37 = .ok (.getfield 51, 3) := by decide +kernel
theorem dX13_closedAt_40 : decode cX13_closedAt 40 = .ok (.bipush 40, 2) := by decide +kernel
theorem dX13_closedAt_42 : decode cX13_closedAt 42 = .ok (.iload_n 3, 1) := by decide +kernel
theorem dX13_closedAt_43 : decode cX13_closedAt 43 = .ok (.imul, 1) := by decide +kernel
theorem dX13_closedAt_44 : decode cX13_closedAt 44 = .ok (.iload 4, 2) := by decide +kernel
theorem dX13_closedAt_46 : decode cX13_closedAt 46 = .ok (.iadd, 1) := by decide +kernel
theorem dX13_closedAt_47 : decode cX13_closedAt 47 = .ok (.iaload, 1) := by decide +kernel
theorem dX13_closedAt_48 : decode cX13_closedAt 48 = .ok (.ifCond .le 13, 3) := by decide +kernel
theorem dX13_closedAt_51 : decode cX13_closedAt 51 = .ok (.bipush 40, 2) := by decide +kernel
theorem dX13_closedAt_53 : decode cX13_closedAt 53 = .ok (.iload_n 3, 1) := by decide +kernel
theorem dX13_closedAt_54 : decode cX13_closedAt 54 = .ok (.imul, 1) := by decide +kernel
theorem dX13_closedAt_55 : decode cX13_closedAt 55 = .ok (.iload 4, 2) := by decide +kernel
theorem dX13_closedAt_57 : decode cX13_closedAt 57 = .ok (.iadd, 1) := by decide +kernel
theorem dX13_closedAt_58 : decode cX13_closedAt 58 = .ok (.goto 4, 3) := by decide +kernel
theorem dX13_closedAt_61 : decode cX13_closedAt 61 = .ok (.iload_n 2, 1) := by decide +kernel
theorem dX13_closedAt_62 : decode cX13_closedAt 62 = .ok (.istore_n 2, 1) := by decide +kernel
theorem dX13_closedAt_63 : decode cX13_closedAt 63 = .ok (.iinc 4 (-1), 3) := by decide +kernel
theorem dX13_closedAt_66 : decode cX13_closedAt 66 = .ok (.goto (-41), 3) := by decide +kernel
theorem dX13_closedAt_69 : decode cX13_closedAt 69 = .ok (.iinc 3 1, 3) := by decide +kernel
theorem dX13_closedAt_72 : decode cX13_closedAt 72 = .ok (.goto (-68), 3) := by decide +kernel
theorem dX13_closedAt_75 : decode cX13_closedAt 75 = .ok (.iload_n 2, 1) := by decide +kernel
theorem dX13_closedAt_76 : decode cX13_closedAt 76 = .ok (.ireturn, 1) := by decide +kernel
theorem dX13_firstSeen_0 : decode cX13_firstSeen 0 = .ok (.aload_n 0, 1) := by decide +kernel
theorem dX13_firstSeen_1 : decode cX13_firstSeen 1 = .ok (.iload_n 1, 1) := by decide +kernel
theorem dX13_firstSeen_2 : decode cX13_firstSeen 2 = .ok (.invokevirtual 287, 3) := by decide +kernel
theorem dX13_firstSeen_5 : decode cX13_firstSeen 5 = .ok (.istore_n 2, 1) := by decide +kernel
theorem dX13_firstSeen_6 : decode cX13_firstSeen 6 = .ok (.iload_n 2, 1) := by decide +kernel
theorem dX13_firstSeen_7 : decode cX13_firstSeen 7 = .ok (.iconst (-1), 1) := by decide +kernel
theorem dX13_firstSeen_8 : decode cX13_firstSeen 8 = .ok (.if_icmp .ne 7, 3) := by decide +kernel
theorem dX13_firstSeen_11 : decode cX13_firstSeen 11 = .ok (.iload_n 1, 1) := by decide +kernel
theorem dX13_firstSeen_12 : decode cX13_firstSeen 12 = .ok (.goto 7, 3) := by decide +kernel
theorem dX13_firstSeen_15 : decode cX13_firstSeen 15 = .ok (.iload_n 2, 1) := by decide +kernel
theorem dX13_firstSeen_16 : decode cX13_firstSeen 16 = .ok (.bipush 40, 2) := by decide +kernel
theorem dX13_firstSeen_18 : decode cX13_firstSeen 18 = .ok (.idiv, 1) := by decide +kernel
theorem dX13_firstSeen_19 : decode cX13_firstSeen 19 = .ok (.ireturn, 1) := by decide +kernel
theorem dX13_lastSeen_0 : decode cX13_lastSeen 0 = .ok (.aload_n 0, 1) := by decide +kernel
theorem dX13_lastSeen_1 : decode cX13_lastSeen 1 = .ok (.iload_n 1, 1) := by decide +kernel
theorem dX13_lastSeen_2 : decode cX13_lastSeen 2 = .ok (.invokevirtual 287, 3) := by decide +kernel
theorem dX13_lastSeen_5 : decode cX13_lastSeen 5 = .ok (.istore_n 2, 1) := by decide +kernel
theorem dX13_lastSeen_6 : decode cX13_lastSeen 6 = .ok (.iload_n 2, 1) := by decide +kernel
theorem dX13_lastSeen_7 : decode cX13_lastSeen 7 = .ok (.iconst (-1), 1) := by decide +kernel
theorem dX13_lastSeen_8 : decode cX13_lastSeen 8 = .ok (.if_icmp .ne 7, 3) := by decide +kernel
theorem dX13_lastSeen_11 : decode cX13_lastSeen 11 = .ok (.iload_n 1, 1) := by decide +kernel
theorem dX13_lastSeen_12 : decode cX13_lastSeen 12 = .ok (.goto 7, 3) := by decide +kernel
theorem dX13_lastSeen_15 : decode cX13_lastSeen 15 = .ok (.iload_n 2, 1) := by decide +kernel
theorem dX13_lastSeen_16 : decode cX13_lastSeen 16 = .ok (.bipush 40, 2) := by decide +kernel
theorem dX13_lastSeen_18 : decode cX13_lastSeen 18 = .ok (.irem, 1) := by decide +kernel
theorem dX13_lastSeen_19 : decode cX13_lastSeen 19 = .ok (.ireturn, 1) := by decide +kernel
theorem dX13_classOf_0 : decode cX13_classOf 0 = .ok (.iload_n 0, 1) := by decide +kernel
theorem dX13_classOf_1 : decode cX13_classOf 1 = .ok (.bipush 32, 2) := by decide +kernel
theorem dX13_classOf_3 : decode cX13_classOf 3 = .ok (.if_icmp .ne 7, 3) := by decide +kernel
theorem dX13_classOf_6 : decode cX13_classOf 6 = .ok (.iconst 0, 1) := by decide +kernel
theorem dX13_classOf_7 : decode cX13_classOf 7 = .ok (.goto 47, 3) := by decide +kernel
theorem dX13_classOf_10 : decode cX13_classOf 10 = .ok (.iload_n 0, 1) := by decide +kernel
theorem dX13_classOf_11 : decode cX13_classOf 11 = .ok (.bipush 97, 2) := by decide +kernel
theorem dX13_classOf_13 : decode cX13_classOf 13 = .ok (.bipush 122, 2) := by decide +kernel
theorem dX13_classOf_15 : decode cX13_classOf 15 = .ok (.invokestatic 198, 3) := by decide +kernel
theorem dX13_classOf_18 : decode cX13_classOf 18 = .ok (.ifCond .ne 31, 3) := by decide +kernel
theorem dX13_classOf_21 : decode cX13_classOf 21 = .ok (.iload_n 0, 1) := by decide +kernel
theorem dX13_classOf_22 : decode cX13_classOf 22 = .ok (.bipush 65, 2) := by decide +kernel
theorem dX13_classOf_24 : decode cX13_classOf 24 = .ok (.bipush 90, 2) := by decide +kernel
theorem dX13_classOf_26 : decode cX13_classOf 26 = .ok (.invokestatic 198, 3) := by decide +kernel
theorem dX13_classOf_29 : decode cX13_classOf 29 = .ok (.ifCond .ne 20, 3) := by decide +kernel
theorem dX13_classOf_32 : decode cX13_classOf 32 = .ok (.iload_n 0, 1) := by decide +kernel
theorem dX13_classOf_33 : decode cX13_classOf 33 = .ok (.bipush 48, 2) := by decide +kernel
theorem dX13_classOf_35 : decode cX13_classOf 35 = .ok (.bipush 57, 2) := by decide +kernel
theorem dX13_classOf_37 : decode cX13_classOf 37 = .ok (.invokestatic 198, 3) := by decide +kernel
theorem dX13_classOf_40 : decode cX13_classOf 40 = .ok (.ifCond .ne 9, 3) := by decide +kernel
theorem dX13_classOf_43 : decode cX13_classOf 43 = .ok (.iload_n 0, 1) := by decide +kernel
theorem dX13_classOf_44 : decode cX13_classOf 44 = .ok (.bipush 95, 2) := by decide +kernel
theorem dX13_classOf_46 : decode cX13_classOf 46 = .ok (.if_icmp .ne 7, 3) := by decide +kernel
theorem dX13_classOf_49 : decode cX13_classOf 49 = .ok (.iconst 1, 1) := by decide +kernel
theorem dX13_classOf_50 : decode cX13_classOf 50 = .ok (.goto 4, 3) := by decide +kernel
theorem dX13_classOf_53 : decode cX13_classOf 53 = .ok (.iconst 2, 1) := by decide +kernel
theorem dX13_classOf_54 : decode cX13_classOf 54 = .ok (.ireturn, 1) := by decide +kernel
theorem dX13_classAt_0 : decode cX13_classAt 0 = .ok (.iload_n 2, 1) := by decide +kernel
theorem dX13_classAt_1 : decode cX13_classAt 1 = .ok (.iconst 0, 1) := by decide +kernel
theorem dX13_classAt_2 : decode cX13_classAt 2 = .ok (.aload_n 0, 1) := by decide +kernel
theorem dX13_classAt_3 : decode cX13_classAt 3 = .ok (.getfield 17, 3) := by decide +kernel
theorem dX13_classAt_6 : decode cX13_classAt 6 = .ok (.iload_n 1, 1) := by decide +kernel
theorem dX13_classAt_7 : decode cX13_classAt 7 = .ok (.iaload, 1) := by decide +kernel
theorem dX13_classAt_8 : decode cX13_classAt 8 = .ok (.iconst 1, 1) := by decide +kernel
theorem dX13_classAt_9 : decode cX13_classAt 9 = .ok (.isub, 1) := by decide +kernel
theorem dX13_classAt_10 : decode cX13_classAt 10 = .ok (.invokestatic 198, 3) := by decide +kernel
theorem dX13_classAt_13 : decode cX13_classAt 13 = .ok (.ifCond .eq 15, 3) := by decide +kernel
theorem dX13_classAt_16 : decode cX13_classAt 16 = .ok (.aload_n 0, 1) := by decide +kernel
theorem dX13_classAt_17 : decode cX13_classAt 17 = .ok (.iload_n 1, 1) := by decide +kernel
theorem dX13_classAt_18 : decode cX13_classAt 18 = .ok (.iload_n 2, 1) := by decide +kernel
theorem dX13_classAt_19 : decode cX13_classAt 19 = .ok (.invokevirtual 206, 3) := by decide +kernel
theorem dX13_classAt_22 : decode cX13_classAt 22 = .ok (.invokestatic 290, 3) := by decide +kernel
theorem dX13_classAt_25 : decode cX13_classAt 25 = .ok (.goto 4, 3) := by decide +kernel
theorem dX13_classAt_28 : decode cX13_classAt 28 = .ok (.iconst (-1), 1) := by decide +kernel
theorem dX13_classAt_29 : decode cX13_classAt 29 = .ok (.ireturn, 1) := by decide +kernel
theorem dX13_isStop_0 : decode cX13_isStop 0 = .ok (.aload_n 0, 1) := by decide +kernel
theorem dX13_isStop_1 : decode cX13_isStop 1 = .ok (.iload_n 1, 1) := by decide +kernel
theorem dX13_isStop_2 : decode cX13_isStop 2 = .ok (.iload_n 2, 1) := by decide +kernel
theorem dX13_isStop_3 : decode cX13_isStop 3 = .ok (.invokevirtual 293, 3) := by decide +kernel
theorem dX13_isStop_6 : decode cX13_isStop 6 = .ok (.istore_n 3, 1) := by decide +kernel
theorem dX13_isStop_7 : decode cX13_isStop 7 = .ok (.aload_n 0, 1) := by decide +kernel
theorem dX13_isStop_8 : decode cX13_isStop 8 = .ok (.getfield 17, 3) := by decide +kernel
theorem dX13_isStop_11 : decode cX13_isStop 11 = .ok (.iload_n 1, 1) := by decide +kernel
theorem dX13_isStop_12 : decode cX13_isStop 12 = .ok (.iaload, 1) := by decide +kernel
theorem dX13_isStop_13 : decode cX13_isStop 13 = .ok (.ifCond .eq 19, 3) := by decide +kernel
theorem dX13_isStop_16 : decode cX13_isStop 16 = .ok (.iload_n 3, 1) := by decide +kernel
theorem dX13_isStop_17 : decode cX13_isStop 17 = .ok (.ifCond .le 19, 3) := by decide +kernel
theorem dX13_isStop_20 : decode cX13_isStop 20 = .ok (.aload_n 0, 1) := by decide +kernel
theorem dX13_isStop_21 : decode cX13_isStop 21 = .ok (.iload_n 1, 1) := by decide +kernel
theorem dX13_isStop_22 : decode cX13_isStop 22 = .ok (.iload_n 2, 1) := by decide +kernel
theorem dX13_isStop_23 : decode cX13_isStop 23 = .ok (.iconst 1, 1) := by decide +kernel
theorem dX13_isStop_24 : decode cX13_isStop 24 = .ok (.isub, 1) := by decide +kernel
theorem dX13_isStop_25 : decode cX13_isStop 25 = .ok (.invokevirtual 293, 3) := by decide +kernel
theorem dX13_isStop_28 : decode cX13_isStop 28 = .ok (.iload_n 3, 1) := by decide +kernel
theorem dX13_isStop_29 : decode cX13_isStop 29 = .ok (.if_icmp .eq 7, 3) := by decide +kernel
theorem dX13_isStop_32 : decode cX13_isStop 32 = .ok (.iconst 1, 1) := by decide +kernel
theorem dX13_isStop_33 : decode cX13_isStop 33 = .ok (.goto 4, 3) := by decide +kernel
theorem dX13_isStop_36 : decode cX13_isStop 36 = .ok (.iconst 0, 1) := by decide +kernel
theorem dX13_isStop_37 : decode cX13_isStop 37 = .ok (.ireturn, 1) := by decide +kernel
theorem dX13_isWordEnd_0 : decode cX13_isWordEnd 0 = .ok (.aload_n 0, 1) := by decide +kernel
theorem dX13_isWordEnd_1 : decode cX13_isWordEnd 1 = .ok (.iload_n 1, 1) := by decide +kernel
theorem dX13_isWordEnd_2 : decode cX13_isWordEnd 2 = .ok (.iload_n 2, 1) := by decide +kernel
theorem dX13_isWordEnd_3 : decode cX13_isWordEnd 3 = .ok (.invokevirtual 293, 3) := by decide +kernel
theorem dX13_isWordEnd_6 : decode cX13_isWordEnd 6 = .ok (.istore_n 3, 1) := by decide +kernel
theorem dX13_isWordEnd_7 : decode cX13_isWordEnd 7 = .ok (.iload_n 3, 1) := by decide +kernel
theorem dX13_isWordEnd_8 : decode cX13_isWordEnd 8 = .ok (.ifCond .le 19, 3) := by decide +kernel
theorem dX13_isWordEnd_11 : decode cX13_isWordEnd 11 = .ok (.aload_n 0, 1) := by decide +kernel
theorem dX13_isWordEnd_12 : decode cX13_isWordEnd 12 = .ok (.iload_n 1, 1) := by decide +kernel
theorem dX13_isWordEnd_13 : decode cX13_isWordEnd 13 = .ok (.iload_n 2, 1) := by decide +kernel
theorem dX13_isWordEnd_14 : decode cX13_isWordEnd 14 = .ok (.iconst 1, 1) := by decide +kernel
theorem dX13_isWordEnd_15 : decode cX13_isWordEnd 15 = .ok (.iadd, 1) := by decide +kernel
theorem dX13_isWordEnd_16 : decode cX13_isWordEnd 16 = .ok (.invokevirtual 293, 3) := by decide +kernel
theorem dX13_isWordEnd_19 : decode cX13_isWordEnd 19 = .ok (.iload_n 3, 1) := by decide +kernel
theorem dX13_isWordEnd_20 : decode cX13_isWordEnd 20 = .ok (.if_icmp .eq 7, 3) := by decide +kernel
theorem dX13_isWordEnd_23 : decode cX13_isWordEnd 23 = .ok (.iconst 1, 1) := by decide +kernel
theorem dX13_isWordEnd_24 : decode cX13_isWordEnd 24 = .ok (.goto 4, 3) := by decide +kernel
theorem dX13_isWordEnd_27 : decode cX13_isWordEnd 27 = .ok (.iconst 0, 1) := by decide +kernel
theorem dX13_isWordEnd_28 : decode cX13_isWordEnd 28 = .ok (.ireturn, 1) := by decide +kernel
theorem dX13_reaches_0 : decode cX13_reaches 0 = .ok (.aload_n 0, 1) := by decide +kernel
theorem dX13_reaches_1 : decode cX13_reaches 1 = .ok (.iload_n 1, 1) := by decide +kernel
theorem dX13_reaches_2 : decode cX13_reaches 2 = .ok (.putfield 296, 3) := by decide +kernel
theorem dX13_reaches_5 : decode cX13_reaches 5 = .ok (.aload_n 0, 1) := by decide +kernel
theorem dX13_reaches_6 : decode cX13_reaches 6 = .ok (.iload_n 2, 1) := by decide +kernel
theorem dX13_reaches_7 : decode cX13_reaches 7 = .ok (.putfield 299, 3) := by decide +kernel
theorem dX13_reaches_10 : decode cX13_reaches 10 = .ok (.return_, 1) := by decide +kernel
theorem dX13_nextStop_0 : decode cX13_nextStop 0 = .ok (.aload_n 0, 1) := by decide +kernel
theorem dX13_nextStop_1 : decode cX13_nextStop 1 = .ok (.getfield 296, 3) := by decide +kernel
theorem dX13_nextStop_4 : decode cX13_nextStop 4 = .ok (.istore_n 1, 1) := by decide +kernel
theorem dX13_nextStop_5 : decode cX13_nextStop 5 = .ok (.aload_n 0, 1) := by decide +kernel
theorem dX13_nextStop_6 : decode cX13_nextStop 6 = .ok (.getfield 299, 3) := by decide +kernel
theorem dX13_nextStop_9 : decode cX13_nextStop 9 = .ok (.iconst 1, 1) := by decide +kernel
theorem dX13_nextStop_10 : decode cX13_nextStop 10 = .ok (.iadd, 1) := by decide +kernel
theorem dX13_nextStop_11 : decode cX13_nextStop 11 = .ok (.istore_n 2, 1) := by decide +kernel
theorem dX13_nextStop_12 : decode cX13_nextStop 12 = .ok (.iload_n 1, 1) := by decide +kernel
theorem dX13_nextStop_13 : decode cX13_nextStop 13 = .ok (.aload_n 0, 1) := by decide +kernel
theorem dX13_nextStop_14 : decode cX13_nextStop 14 = .ok (.getfield 13, 3) := by decide +kernel
theorem dX13_nextStop_17 : decode cX13_nextStop 17 = .ok (.if_icmp .ge 48, 3) := by decide +kernel
theorem dX13_nextStop_20 : decode cX13_nextStop 20 = .ok (.iload_n 2, 1) := by decide +kernel
theorem dX13_nextStop_21 : decode cX13_nextStop 21 = .ok (.aload_n 0, 1) := by decide +kernel
theorem dX13_nextStop_22 : decode cX13_nextStop 22 = .ok (.getfield 17, 3) := by decide +kernel
theorem dX13_nextStop_25 : decode cX13_nextStop 25 = .ok (.iload_n 1, 1) := by decide +kernel
theorem dX13_nextStop_26 : decode cX13_nextStop 26 = .ok (.iaload, 1) := by decide +kernel
theorem dX13_nextStop_27 : decode cX13_nextStop 27 = .ok (.if_icmp .lt 7, 3) := by decide +kernel
theorem dX13_nextStop_30 : decode cX13_nextStop 30 = .ok (.iload_n 2, 1) := by decide +kernel
theorem dX13_nextStop_31 : decode cX13_nextStop 31 = .ok (.ifCond .ne 26, 3) := by decide +kernel
theorem dX13_nextStop_34 : decode cX13_nextStop 34 = .ok (.aload_n 0, 1) := by decide +kernel
theorem dX13_nextStop_35 : decode cX13_nextStop 35 = .ok (.iload_n 1, 1) := by decide +kernel
theorem dX13_nextStop_36 : decode cX13_nextStop 36 = .ok (.iload_n 2, 1) := by decide +kernel
theorem dX13_nextStop_37 : decode cX13_nextStop 37 = .ok (.invokevirtual 302, 3) := by decide +kernel
theorem dX13_nextStop_40 : decode cX13_nextStop 40 = .ok (.ifCond .eq 11, 3) := by decide +kernel
theorem dX13_nextStop_43 : decode cX13_nextStop 43 = .ok (.aload_n 0, 1) := by decide +kernel
theorem dX13_nextStop_44 : decode cX13_nextStop 44 = .ok (.iload_n 1, 1) := by decide +kernel
theorem dX13_nextStop_45 : decode cX13_nextStop 45 = .ok (.iload_n 2, 1) := by decide +kernel
theorem dX13_nextStop_46 : decode cX13_nextStop 46 = .ok (.invokevirtual 306, 3) := by decide +kernel
theorem dX13_nextStop_49 : decode cX13_nextStop 49 = .ok (.iconst 1, 1) := by decide +kernel
theorem dX13_nextStop_50 : decode cX13_nextStop 50 = .ok (.ireturn, 1) := by decide +kernel
theorem dX13_nextStop_51 : decode cX13_nextStop 51 = .ok (.iinc 2 1, 3) := by decide +kernel
theorem dX13_nextStop_54 : decode cX13_nextStop 54 = .ok (.goto (-34), 3) := by decide +kernel
theorem dX13_nextStop_57 : decode cX13_nextStop 57 = .ok (.iinc 1 1, 3) := by decide +kernel
theorem dX13_nextStop_60 : decode cX13_nextStop 60 = .ok (.iconst 0, 1) := by decide +kernel
theorem dX13_nextStop_61 : decode cX13_nextStop 61 = .ok (.istore_n 2, 1) := by decide +kernel
theorem dX13_nextStop_62 : decode cX13_nextStop 62 = .ok (.goto (-50), 3) := by decide +kernel
theorem dX13_nextStop_65 : decode cX13_nextStop 65 = .ok (.iconst 0, 1) := by decide +kernel
theorem dX13_nextStop_66 : decode cX13_nextStop 66 = .ok (.ireturn, 1) := by decide +kernel
theorem dX13_stopAhead_0 : decode cX13_stopAhead 0 = .ok (.aload_n 0, 1) := by decide +kernel
theorem dX13_stopAhead_1 : decode cX13_stopAhead 1 = .ok (.getfield 296, 3) := by decide +kernel
theorem dX13_stopAhead_4 : decode cX13_stopAhead 4 = .ok (.istore_n 1, 1) := by decide +kernel
theorem dX13_stopAhead_5 : decode cX13_stopAhead 5 = .ok (.aload_n 0, 1) := by decide +kernel
theorem dX13_stopAhead_6 : decode cX13_stopAhead 6 = .ok (.getfield 299, 3) := by decide +kernel
theorem dX13_stopAhead_9 : decode cX13_stopAhead 9 = .ok (.iconst 1, 1) := by decide +kernel
theorem dX13_stopAhead_10 : decode cX13_stopAhead 10 = .ok (.isub, 1) := by decide +kernel
theorem dX13_stopAhead_11 : decode cX13_stopAhead 11 = .ok (.istore_n 2, 1) := by decide +kernel
theorem dX13_stopAhead_12 : decode cX13_stopAhead 12 = .ok (.iload_n 1, 1) := by decide +kernel
theorem dX13_stopAhead_13 : decode cX13_stopAhead 13 = .ok (.ifCond .lt 50, 3) := by decide +kernel
theorem dX13_stopAhead_16 : decode cX13_stopAhead 16 = .ok (.iload_n 2, 1) := by decide +kernel
theorem dX13_stopAhead_17 : decode cX13_stopAhead 17 = .ok (.ifCond .lt 26, 3) := by decide +kernel
theorem dX13_stopAhead_20 : decode cX13_stopAhead 20 = .ok (.aload_n 0, 1) := by decide +kernel
theorem dX13_stopAhead_21 : decode cX13_stopAhead 21 = .ok (.iload_n 1, 1) := by decide +kernel
theorem dX13_stopAhead_22 : decode cX13_stopAhead 22 = .ok (.iload_n 2, 1) := by decide +kernel
theorem dX13_stopAhead_23 : decode cX13_stopAhead 23 = .ok (.invokevirtual 302, 3) := by decide +kernel
theorem dX13_stopAhead_26 : decode cX13_stopAhead 26 = .ok (.ifCond .eq 11, 3) := by decide +kernel
theorem dX13_stopAhead_29 : decode cX13_stopAhead 29 = .ok (.aload_n 0, 1) := by decide +kernel
theorem dX13_stopAhead_30 : decode cX13_stopAhead 30 = .ok (.iload_n 1, 1) := by decide +kernel
theorem dX13_stopAhead_31 : decode cX13_stopAhead 31 = .ok (.iload_n 2, 1) := by decide +kernel
theorem dX13_stopAhead_32 : decode cX13_stopAhead 32 = .ok (.invokevirtual 306, 3) := by decide +kernel
theorem dX13_stopAhead_35 : decode cX13_stopAhead 35 = .ok (.iconst 1, 1) := by decide +kernel
theorem dX13_stopAhead_36 : decode cX13_stopAhead 36 = .ok (.ireturn, 1) := by decide +kernel
theorem dX13_stopAhead_37 : decode cX13_stopAhead 37 = .ok (.iinc 2 (-1), 3) := by decide +kernel
theorem dX13_stopAhead_40 : decode cX13_stopAhead 40 = .ok (.goto (-24), 3) := by decide +kernel
theorem dX13_stopAhead_43 : decode cX13_stopAhead 43 = .ok (.iinc 1 (-1), 3) := by decide +kernel
theorem dX13_stopAhead_46 : decode cX13_stopAhead 46 = .ok (.iload_n 1, 1) := by decide +kernel
theorem dX13_stopAhead_47 : decode cX13_stopAhead 47 = .ok (.ifCond .ge 7, 3) := by decide +kernel
theorem dX13_stopAhead_50 : decode cX13_stopAhead 50 = .ok (.iconst (-1), 1) := by decide +kernel
theorem dX13_stopAhead_51 : decode cX13_stopAhead 51 = .ok (.goto 8, 3) := by decide +kernel
theorem dX13_stopAhead_54 : decode cX13_stopAhead 54 = .ok (.aload_n 0, 1) := by decide +kernel
theorem dX13_stopAhead_55 : decode cX13_stopAhead 55 = .ok (.iload_n 1, 1) := by decide +kernel
theorem dX13_stopAhead_56 : decode cX13_stopAhead 56 = .ok (.invokevirtual 309, 3) := by decide +kernel
theorem dX13_stopAhead_59 : decode cX13_stopAhead 59 = .ok (.istore_n 2, 1) := by decide +kernel
theorem dX13_stopAhead_60 : decode cX13_stopAhead 60 = .ok (.goto (-48), 3) := by decide +kernel
theorem dX13_stopAhead_63 : decode cX13_stopAhead 63 = .ok (.iconst 0, 1) := by decide +kernel
theorem dX13_stopAhead_64 : decode cX13_stopAhead 64 = .ok (.ireturn, 1) := by decide +kernel
theorem dX13_nextEnd_0 : decode cX13_nextEnd 0 = .ok (.aload_n 0, 1) := by decide +kernel
theorem dX13_nextEnd_1 : decode cX13_nextEnd 1 = .ok (.getfield 296, 3) := by decide +kernel
theorem dX13_nextEnd_4 : decode cX13_nextEnd 4 = .ok (.istore_n 1, 1) := by decide +kernel
theorem dX13_nextEnd_5 : decode cX13_nextEnd 5 = .ok (.aload_n 0, 1) := by decide +kernel
theorem dX13_nextEnd_6 : decode cX13_nextEnd 6 = .ok (.getfield 299, 3) := by decide +kernel
theorem dX13_nextEnd_9 : decode cX13_nextEnd 9 = .ok (.iconst 1, 1) := by decide +kernel
theorem dX13_nextEnd_10 : decode cX13_nextEnd 10 = .ok (.iadd, 1) := by decide +kernel
theorem dX13_nextEnd_11 : decode cX13_nextEnd 11 = .ok (.istore_n 2, 1) := by decide +kernel
theorem dX13_nextEnd_12 : decode cX13_nextEnd 12 = .ok (.iload_n 1, 1) := by decide +kernel
theorem dX13_nextEnd_13 : decode cX13_nextEnd 13 = .ok (.aload_n 0, 1) := by decide +kernel
theorem dX13_nextEnd_14 : decode cX13_nextEnd 14 = .ok (.getfield 13, 3) := by decide +kernel
theorem dX13_nextEnd_17 : decode cX13_nextEnd 17 = .ok (.if_icmp .ge 46, 3) := by decide +kernel
theorem dX13_nextEnd_20 : decode cX13_nextEnd 20 = .ok (.iload_n 2, 1) := by decide +kernel
theorem dX13_nextEnd_21 : decode cX13_nextEnd 21 = .ok (.istore_n 3, 1) := by decide +kernel
theorem dX13_nextEnd_22 : decode cX13_nextEnd 22 = .ok (.iload_n 3, 1) := by decide +kernel
theorem dX13_nextEnd_23 : decode cX13_nextEnd 23 = .ok (.aload_n 0, 1) := by decide +kernel
theorem dX13_nextEnd_24 : decode cX13_nextEnd 24 = .ok (.getfield 17, 3) := by decide +kernel
theorem dX13_nextEnd_27 : decode cX13_nextEnd 27 = .ok (.iload_n 1, 1) := by decide +kernel
theorem dX13_nextEnd_28 : decode cX13_nextEnd 28 = .ok (.iaload, 1) := by decide +kernel
theorem dX13_nextEnd_29 : decode cX13_nextEnd 29 = .ok (.if_icmp .ge 26, 3) := by decide +kernel
theorem dX13_nextEnd_32 : decode cX13_nextEnd 32 = .ok (.aload_n 0, 1) := by decide +kernel
theorem dX13_nextEnd_33 : decode cX13_nextEnd 33 = .ok (.iload_n 1, 1) := by decide +kernel
theorem dX13_nextEnd_34 : decode cX13_nextEnd 34 = .ok (.iload_n 3, 1) := by decide +kernel
theorem dX13_nextEnd_35 : decode cX13_nextEnd 35 = .ok (.invokevirtual 312, 3) := by decide +kernel
theorem dX13_nextEnd_38 : decode cX13_nextEnd 38 = .ok (.ifCond .eq 11, 3) := by decide +kernel
theorem dX13_nextEnd_41 : decode cX13_nextEnd 41 = .ok (.aload_n 0, 1) := by decide +kernel
theorem dX13_nextEnd_42 : decode cX13_nextEnd 42 = .ok (.iload_n 1, 1) := by decide +kernel
theorem dX13_nextEnd_43 : decode cX13_nextEnd 43 = .ok (.iload_n 3, 1) := by decide +kernel
theorem dX13_nextEnd_44 : decode cX13_nextEnd 44 = .ok (.invokevirtual 306, 3) := by decide +kernel
theorem dX13_nextEnd_47 : decode cX13_nextEnd 47 = .ok (.iconst 1, 1) := by decide +kernel
theorem dX13_nextEnd_48 : decode cX13_nextEnd 48 = .ok (.ireturn, 1) := by decide +kernel
theorem dX13_nextEnd_49 : decode cX13_nextEnd 49 = .ok (.iinc 3 1, 3) := by decide +kernel
theorem dX13_nextEnd_52 : decode cX13_nextEnd 52 = .ok (.goto (-30), 3) := by decide +kernel
theorem dX13_nextEnd_55 : decode cX13_nextEnd 55 = .ok (.iinc 1 1, 3) := by decide +kernel
theorem dX13_nextEnd_58 : decode cX13_nextEnd 58 = .ok (.iconst 0, 1) := by decide +kernel
theorem dX13_nextEnd_59 : decode cX13_nextEnd 59 = .ok (.istore_n 2, 1) := by decide +kernel
theorem dX13_nextEnd_60 : decode cX13_nextEnd 60 = .ok (.goto (-48), 3) := by decide +kernel
theorem dX13_nextEnd_63 : decode cX13_nextEnd 63 = .ok (.iconst 0, 1) := by decide +kernel
theorem dX13_nextEnd_64 : decode cX13_nextEnd 64 = .ok (.ireturn, 1) := by decide +kernel
theorem dX13_goesWords_0 : decode cX13_goesWords 0 = .ok (.iconst 0, 1) := by decide +kernel
theorem dX13_goesWords_1 : decode cX13_goesWords 1 = .ok (.istore_n 3, 1) := by decide +kernel
theorem dX13_goesWords_2 : decode cX13_goesWords 2 = .ok (.iconst 1, 1) := by decide +kernel
theorem dX13_goesWords_3 : decode cX13_goesWords 3 = .ok (.istore 4, 2) := by decide +kernel
theorem dX13_goesWords_5 : decode cX13_goesWords 5 = .ok (.iconst (-1), 1) := by decide +kernel
theorem dX13_goesWords_6 : decode cX13_goesWords 6 = .ok (.istore 5, 2) := by decide +kernel
theorem dX13_goesWords_8 : decode cX13_goesWords 8 = .ok (.iload_n 3, 1) := by decide +kernel
theorem dX13_goesWords_9 : decode cX13_goesWords 9 = .ok (.iload_n 1, 1) := by decide +kernel
theorem dX13_goesWords_10 : decode cX13_goesWords 10 = .ok (.if_icmp .ge 136, 3) := by decide +kernel
theorem dX13_goesWords_13 : decode cX13_goesWords 13 = .ok (.iload 4, 2) := by decide +kernel
theorem dX13_goesWords_15 : decode cX13_goesWords 15 = .ok (.ifCond .eq 131, 3) := by decide +kernel
theorem dX13_goesWords_18 : decode cX13_goesWords 18 = .ok (.aload_n 0, 1) := by decide +kernel
theorem dX13_goesWords_19 : decode cX13_goesWords 19 = .ok (.getfield 296, 3) := by decide +kernel
theorem dX13_goesWords_22 : decode cX13_goesWords 22 = .ok (.istore 6, 2) := by decide +kernel
theorem dX13_goesWords_24 : decode cX13_goesWords 24 = .ok (.aload_n 0, 1) := by decide +kernel
theorem dX13_goesWords_25 : decode cX13_goesWords 25 = .ok (.getfield 299, 3) := by decide +kernel
theorem dX13_goesWords_28 : decode cX13_goesWords 28 = .ok (.istore 7, 2) := by decide +kernel
theorem dX13_goesWords_30 : decode cX13_goesWords 30 = .ok (.aload_n 0, 1) := by decide +kernel
theorem dX13_goesWords_31 : decode cX13_goesWords 31 = .ok (.invokevirtual 315, 3) := by decide +kernel
theorem dX13_goesWords_34 : decode cX13_goesWords 34 = .ok (.istore 8, 2) := by decide +kernel
theorem dX13_goesWords_36 : decode cX13_goesWords 36 = .ok (.iload 8, 2) := by decide +kernel
theorem dX13_goesWords_38 : decode cX13_goesWords 38 = .ok (.ifCond .eq 21, 3) := by decide +kernel
theorem dX13_goesWords_41 : decode cX13_goesWords 41 = .ok (.aload_n 0, 1) := by decide +kernel
theorem dX13_goesWords_42 : decode cX13_goesWords 42 = .ok (.getfield 296, 3) := by decide +kernel
theorem dX13_goesWords_45 : decode cX13_goesWords 45 = .ok (.iload 6, 2) := by decide +kernel
theorem dX13_goesWords_47 : decode cX13_goesWords 47 = .ok (.if_icmp .eq 12, 3) := by decide +kernel
theorem dX13_goesWords_50 : decode cX13_goesWords 50 = .ok (.aload_n 0, 1) := by decide +kernel
theorem dX13_goesWords_51 : decode cX13_goesWords 51 = .ok (.getfield 296, 3) := by decide +kernel
theorem dX13_goesWords_54 : decode cX13_goesWords 54 = .ok (.iconst 1, 1) := by decide +kernel
theorem dX13_goesWords_55 : decode cX13_goesWords 55 = .ok (.isub, 1) := by decide +kernel
theorem dX13_goesWords_56 : decode cX13_goesWords 56 = .ok (.goto 4, 3) := by decide +kernel
theorem dX13_goesWords_59 : decode cX13_goesWords 59 = .ok (.iconst (-1), 1) := by decide +kernel
theorem dX13_goesWords_60 : decode cX13_goesWords 60 = .ok (.istore 5, 2) := by decide +kernel
theorem dX13_goesWords_62 : decode cX13_goesWords 62 = .ok (.iload 8, 2) := by decide +kernel
theorem dX13_goesWords_64 : decode cX13_goesWords 64 = .ok (.ifCond .ne 66, 3) := by decide +kernel
theorem dX13_goesWords_67 : decode cX13_goesWords 67 = .ok (.aload_n 0, 1) := by decide +kernel
theorem dX13_goesWords_68 : decode cX13_goesWords 68 = .ok (.aload_n 0, 1) := by decide +kernel
theorem dX13_goesWords_69 : decode cX13_goesWords 69 = .ok (.getfield 13, 3) := by decide +kernel
theorem dX13_goesWords_72 : decode cX13_goesWords 72 = .ok (.iconst 1, 1) := by decide +kernel
theorem dX13_goesWords_73 : decode cX13_goesWords 73 = .ok (.isub, 1) := by decide +kernel
theorem dX13_goesWords_74 : decode cX13_goesWords 74 = .ok (.iload_n 2, 1) := by decide +kernel
theorem dX13_goesWords_75 : decode cX13_goesWords 75 = .ok (.ifCond .eq 17, 3) := by decide +kernel
theorem dX13_goesWords_78 : decode cX13_goesWords 78 = .ok (.aload_n 0, 1) := by decide +kernel
theorem dX13_goesWords_79 : decode cX13_goesWords 79 = .ok (.getfield 17, 3) := by decide +kernel
theorem dX13_goesWords_82 : decode cX13_goesWords 82 = .ok (.aload_n 0, 1) := by decide +kernel
theorem dX13_goesWords_83 : decode cX13_goesWords 83 = .ok (.getfield 13, 3) := by decide +kernel
theorem dX13_goesWords_86 : decode cX13_goesWords 86 = .ok (.iconst 1, 1) := by decide +kernel
theorem dX13_goesWords_87 : decode cX13_goesWords 87 = .ok (.isub, 1) := by decide +kernel
theorem dX13_goesWords_88 : decode cX13_goesWords 88 = .ok (.iaload, 1) := by decide +kernel
theorem dX13_goesWords_89 : decode cX13_goesWords 89 = .ok (.goto 13, 3) := by decide +kernel
theorem dX13_goesWords_92 : decode cX13_goesWords 92 = .ok (.aload_n 0, 1) := by decide +kernel
theorem dX13_goesWords_93 : decode cX13_goesWords 93 = .ok (.aload_n 0, 1) := by decide +kernel
theorem dX13_goesWords_94 : decode cX13_goesWords 94 = .ok (.getfield 13, 3) := by decide +kernel
theorem dX13_goesWords_97 : decode cX13_goesWords 97 = .ok (.iconst 1, 1) := by decide +kernel
theorem dX13_goesWords_98 : decode cX13_goesWords 98 = .ok (.isub, 1) := by decide +kernel
theorem dX13_goesWords_99 : decode cX13_goesWords 99 = .ok (.invokevirtual 309, 3) := by decide +kernel
theorem dX13_goesWords_102 : decode cX13_goesWords 102 = .ok (.invokevirtual 306, 3) := by decide +kernel
theorem dX13_goesWords_105 : decode cX13_goesWords 105 = .ok (.aload_n 0, 1) := by decide +kernel
theorem dX13_goesWords_106 : decode cX13_goesWords 106 = .ok (.getfield 296, 3) := by decide +kernel
theorem dX13_goesWords_109 : decode cX13_goesWords 109 = .ok (.iload 6, 2) := by decide +kernel
theorem dX13_goesWords_111 : decode cX13_goesWords 111 = .ok (.if_icmp .ne 12, 3) := by decide +kernel
theorem dX13_goesWords_114 : decode cX13_goesWords 114 = .ok (.aload_n 0, 1) := by decide +kernel
theorem dX13_goesWords_115 : decode cX13_goesWords 115 = .ok (.getfield 299, 3) := by decide +kernel
theorem dX13_goesWords_118 : decode cX13_goesWords 118 = .ok (.iload 7, 2) := by decide +kernel
theorem dX13_goesWords_120 : decode cX13_goesWords 120 = .ok (.if_icmp .eq 7, 3) := by decide +kernel
theorem dX13_goesWords_123 : decode cX13_goesWords 123 = .ok (.iconst 1, 1) := by decide +kernel
theorem dX13_goesWords_124 : decode cX13_goesWords 124 = .ok (.goto 4, 3) := by decide +kernel
theorem dX13_goesWords_127 : decode cX13_goesWords 127 = .ok (.iconst 0, 1) := by decide +kernel
theorem dX13_goesWords_128 : decode cX13_goesWords 128 = .ok (.istore 4, 2) := by decide +kernel
theorem dX13_goesWords_130 : decode cX13_goesWords 130 = .ok (.iload_n 3, 1) := by decide +kernel
theorem dX13_goesWords_131 : decode cX13_goesWords 131 = .ok (.iload 4, 2) := by decide +kernel
theorem dX13_goesWords_133 : decode cX13_goesWords 133 = .ok (.ifCond .eq 7, 3) := by decide +kernel
theorem dX13_goesWords_136 : decode cX13_goesWords 136 = .ok (.iconst 1, 1) := by decide +kernel
theorem dX13_goesWords_137 : decode cX13_goesWords 137 = .ok (.goto 4, 3) := by decide +kernel
theorem dX13_goesWords_140 : decode cX13_goesWords 140 = .ok (.iconst 0, 1) := by decide +kernel
theorem dX13_goesWords_141 : decode cX13_goesWords 141 = .ok (.iadd, 1) := by decide +kernel
theorem dX13_goesWords_142 : decode cX13_goesWords 142 = .ok (.istore_n 3, 1) := by decide +kernel
theorem dX13_goesWords_143 : decode cX13_goesWords 143 = .ok (.goto (-135), 3) := by decide +kernel
theorem dX13_goesWords_146 : decode cX13_goesWords 146 = .ok (.iload_n 2, 1) := by decide +kernel
theorem dX13_goesWords_147 : decode cX13_goesWords 147 = .ok (.ifCond .eq 22, 3) := by decide +kernel
theorem dX13_goesWords_150 : decode cX13_goesWords 150 = .ok (.iload 5, 2) := by decide +kernel
theorem dX13_goesWords_152 : decode cX13_goesWords 152 = .ok (.iconst (-1), 1) := by decide +kernel
theorem dX13_goesWords_153 : decode cX13_goesWords 153 = .ok (.if_icmp .eq 16, 3) := by decide +kernel
theorem dX13_goesWords_156 : decode cX13_goesWords 156 = .ok (.aload_n 0, 1) := by decide +kernel
theorem dX13_goesWords_157 : decode cX13_goesWords 157 = .ok (.iload 5, 2) := by decide +kernel
theorem dX13_goesWords_159 : decode cX13_goesWords 159 = .ok (.aload_n 0, 1) := by decide +kernel
theorem dX13_goesWords_160 : decode cX13_goesWords 160 = .ok (.getfield 17, 3) := by decide +kernel
theorem dX13_goesWords_163 : decode cX13_goesWords 163 = .ok (.iload 5, 2) := by decide +kernel
theorem dX13_goesWords_165 : decode cX13_goesWords 165 = .ok (.iaload, 1) := by decide +kernel
theorem dX13_goesWords_166 : decode cX13_goesWords 166 = .ok (.invokevirtual 306, 3) := by decide +kernel
theorem dX13_goesWords_169 : decode cX13_goesWords 169 = .ok (.iload_n 2, 1) := by decide +kernel
theorem dX13_goesWords_170 : decode cX13_goesWords 170 = .ok (.ifCond .ne 7, 3) := by decide +kernel
theorem dX13_goesWords_173 : decode cX13_goesWords 173 = .ok (.iload_n 3, 1) := by decide +kernel
theorem dX13_goesWords_174 : decode cX13_goesWords 174 = .ok (.ifCond .le 7, 3) := by decide +kernel
theorem dX13_goesWords_177 : decode cX13_goesWords 177 = .ok (.iconst 1, 1) := by decide +kernel
theorem dX13_goesWords_178 : decode cX13_goesWords 178 = .ok (.goto 4, 3) := by decide +kernel
theorem dX13_goesWords_181 : decode cX13_goesWords 181 = .ok (.iconst 0, 1) := by decide +kernel
theorem dX13_goesWords_182 : decode cX13_goesWords 182 = .ok (.ireturn, 1) := by decide +kernel
theorem dX13_goesWordsBack_0 : decode cX13_goesWordsBack 0 = .ok (.iconst 0, 1) := by decide +kernel
theorem dX13_goesWordsBack_1 : decode cX13_goesWordsBack 1 = .ok (.istore_n 2, 1) := by decide +kernel
theorem dX13_goesWordsBack_2 : decode cX13_goesWordsBack 2 = .ok (.iconst 1, 1) := by decide +kernel
theorem dX13_goesWordsBack_3 : decode cX13_goesWordsBack 3 = .ok (.istore_n 3, 1) := by decide +kernel
theorem dX13_goesWordsBack_4 : decode cX13_goesWordsBack 4 = .ok (.iload_n 2, 1) := by decide +kernel
theorem dX13_goesWordsBack_5 : decode cX13_goesWordsBack 5 = .ok (.iload_n 1, 1) := by decide +kernel
theorem dX13_goesWordsBack_6 : decode cX13_goesWordsBack 6 = .ok (.if_icmp .ge 59, 3) := by decide +kernel
theorem dX13_goesWordsBack_9 : decode cX13_goesWordsBack 9 = .ok (.iload_n 3, 1) := by decide +kernel
theorem dX13_goesWordsBack_10 : decode cX13_goesWordsBack 10 = .ok (.ifCond .eq 55, 3) := by decide +kernel
theorem dX13_goesWordsBack_13 : decode cX13_goesWordsBack 13 = .ok (.aload_n 0, 1) := by decide +kernel
theorem dX13_goesWordsBack_14 : decode cX13_goesWordsBack 14 = .ok (.getfield 296, 3) := by decide +kernel
theorem dX13_goesWordsBack_17 : decode cX13_goesWordsBack 17 = .ok (.ifCond .gt 10, 3) := by decide +kernel
theorem dX13_goesWordsBack_20 : decode cX13_goesWordsBack 20 = .ok (.aload_n 0, 1) := by decide +kernel
theorem dX13_goesWordsBack_21 : decode cX13_goesWordsBack 21 = .ok (.getfield 299, 3) := by decide +kernel
theorem dX13_goesWordsBack_24 : decode cX13_goesWordsBack 24 = .ok (.ifCond .le 7, 3) := by decide +kernel
theorem dX13_goesWordsBack_27 : decode cX13_goesWordsBack 27 = .ok (.iconst 1, 1) := by decide +kernel
theorem dX13_goesWordsBack_28 : decode cX13_goesWordsBack 28 = .ok (.goto 4, 3) := by decide +kernel
theorem dX13_goesWordsBack_31 : decode cX13_goesWordsBack 31 = .ok (.iconst 0, 1) := by decide +kernel
theorem dX13_goesWordsBack_32 : decode cX13_goesWordsBack 32 = .ok (.istore_n 3, 1) := by decide +kernel
theorem dX13_goesWordsBack_33 : decode cX13_goesWordsBack 33 = .ok (.iload_n 3, 1) := by decide +kernel
theorem dX13_goesWordsBack_34 : decode cX13_goesWordsBack 34 = .ok (.ifCond .eq 16, 3) := by decide +kernel
theorem dX13_goesWordsBack_37 : decode cX13_goesWordsBack 37 = .ok (.aload_n 0, 1) := by decide +kernel
theorem dX13_goesWordsBack_38 : decode cX13_goesWordsBack 38 = .ok (.invokevirtual 318, 3) := by decide +kernel
theorem dX13_goesWordsBack_41 : decode cX13_goesWordsBack 41 = .ok (.ifCond .ne 9, 3) := by decide +kernel
theorem dX13_goesWordsBack_44 : decode cX13_goesWordsBack 44 = .ok (.aload_n 0, 1) := by decide +kernel
theorem dX13_goesWordsBack_45 : decode cX13_goesWordsBack 45 = .ok (.iconst 0, 1) := by decide +kernel
theorem dX13_goesWordsBack_46 : decode cX13_goesWordsBack 46 = .ok (.iconst 0, 1) := by decide +kernel
theorem dX13_goesWordsBack_47 : decode cX13_goesWordsBack 47 = .ok (.invokevirtual 306, 3) := by decide +kernel
theorem dX13_goesWordsBack_50 : decode cX13_goesWordsBack 50 = .ok (.iload_n 2, 1) := by decide +kernel
theorem dX13_goesWordsBack_51 : decode cX13_goesWordsBack 51 = .ok (.iload_n 3, 1) := by decide +kernel
theorem dX13_goesWordsBack_52 : decode cX13_goesWordsBack 52 = .ok (.ifCond .eq 7, 3) := by decide +kernel
theorem dX13_goesWordsBack_55 : decode cX13_goesWordsBack 55 = .ok (.iconst 1, 1) := by decide +kernel
theorem dX13_goesWordsBack_56 : decode cX13_goesWordsBack 56 = .ok (.goto 4, 3) := by decide +kernel
theorem dX13_goesWordsBack_59 : decode cX13_goesWordsBack 59 = .ok (.iconst 0, 1) := by decide +kernel
theorem dX13_goesWordsBack_60 : decode cX13_goesWordsBack 60 = .ok (.iadd, 1) := by decide +kernel
theorem dX13_goesWordsBack_61 : decode cX13_goesWordsBack 61 = .ok (.istore_n 2, 1) := by decide +kernel
theorem dX13_goesWordsBack_62 : decode cX13_goesWordsBack 62 = .ok (.goto (-58), 3) := by decide +kernel
theorem dX13_goesWordsBack_65 : decode cX13_goesWordsBack 65 = .ok (.iload_n 2, 1) := by decide +kernel
theorem dX13_goesWordsBack_66 : decode cX13_goesWordsBack 66 = .ok (.ifCond .le 7, 3) := by decide +kernel
theorem dX13_goesWordsBack_69 : decode cX13_goesWordsBack 69 = .ok (.iconst 1, 1) := by decide +kernel
theorem dX13_goesWordsBack_70 : decode cX13_goesWordsBack 70 = .ok (.goto 4, 3) := by decide +kernel
theorem dX13_goesWordsBack_73 : decode cX13_goesWordsBack 73 = .ok (.iconst 0, 1) := by decide +kernel
theorem dX13_goesWordsBack_74 : decode cX13_goesWordsBack 74 = .ok (.ireturn, 1) := by decide +kernel
theorem dX13_goesEnds_0 : decode cX13_goesEnds 0 = .ok (.iconst 1, 1) := by decide +kernel
theorem dX13_goesEnds_1 : decode cX13_goesEnds 1 = .ok (.istore_n 2, 1) := by decide +kernel
theorem dX13_goesEnds_2 : decode cX13_goesEnds 2 = .ok (.iconst 0, 1) := by decide +kernel
theorem dX13_goesEnds_3 : decode cX13_goesEnds 3 = .ok (.istore_n 3, 1) := by decide +kernel
theorem dX13_goesEnds_4 : decode cX13_goesEnds 4 = .ok (.iload_n 3, 1) := by decide +kernel
theorem dX13_goesEnds_5 : decode cX13_goesEnds 5 = .ok (.iload_n 1, 1) := by decide +kernel
theorem dX13_goesEnds_6 : decode cX13_goesEnds 6 = .ok (.if_icmp .ge 18, 3) := by decide +kernel
theorem dX13_goesEnds_9 : decode cX13_goesEnds 9 = .ok (.iload_n 2, 1) := by decide +kernel
theorem dX13_goesEnds_10 : decode cX13_goesEnds 10 = .ok (.ifCond .eq 14, 3) := by decide +kernel
theorem dX13_goesEnds_13 : decode cX13_goesEnds 13 = .ok (.aload_n 0, 1) := by decide +kernel
theorem dX13_goesEnds_14 : decode cX13_goesEnds 14 = .ok (.invokevirtual 321, 3) := by decide +kernel
theorem dX13_goesEnds_17 : decode cX13_goesEnds 17 = .ok (.istore_n 2, 1) := by decide +kernel
theorem dX13_goesEnds_18 : decode cX13_goesEnds 18 = .ok (.iinc 3 1, 3) := by decide +kernel
theorem dX13_goesEnds_21 : decode cX13_goesEnds 21 = .ok (.goto (-17), 3) := by decide +kernel
theorem dX13_goesEnds_24 : decode cX13_goesEnds 24 = .ok (.iload_n 2, 1) := by decide +kernel
theorem dX13_goesEnds_25 : decode cX13_goesEnds 25 = .ok (.ireturn, 1) := by decide +kernel
theorem dX13_goesParts_0 : decode cX13_goesParts 0 = .ok (.iconst 0, 1) := by decide +kernel
theorem dX13_goesParts_1 : decode cX13_goesParts 1 = .ok (.istore_n 3, 1) := by decide +kernel
theorem dX13_goesParts_2 : decode cX13_goesParts 2 = .ok (.iconst 1, 1) := by decide +kernel
theorem dX13_goesParts_3 : decode cX13_goesParts 3 = .ok (.istore 4, 2) := by decide +kernel
theorem dX13_goesParts_5 : decode cX13_goesParts 5 = .ok (.iload_n 3, 1) := by decide +kernel
theorem dX13_goesParts_6 : decode cX13_goesParts 6 = .ok (.iload_n 1, 1) := by decide +kernel
theorem dX13_goesParts_7 : decode cX13_goesParts 7 = .ok (.if_icmp .ge 176, 3) := by decide +kernel
theorem dX13_goesParts_10 : decode cX13_goesParts 10 = .ok (.iload 4, 2) := by decide +kernel
theorem dX13_goesParts_12 : decode cX13_goesParts 12 = .ok (.ifCond .eq 171, 3) := by decide +kernel
theorem dX13_goesParts_15 : decode cX13_goesParts 15 = .ok (.aload_n 0, 1) := by decide +kernel
theorem dX13_goesParts_16 : decode cX13_goesParts 16 = .ok (.getfield 296, 3) := by decide +kernel
theorem dX13_goesParts_19 : decode cX13_goesParts 19 = .ok (.iload_n 2, 1) := by decide +kernel
theorem dX13_goesParts_20 : decode cX13_goesParts 20 = .ok (.iadd, 1) := by decide +kernel
theorem dX13_goesParts_21 : decode cX13_goesParts 21 = .ok (.istore 5, 2) := by decide +kernel
theorem dX13_goesParts_23 : decode cX13_goesParts 23 = .ok (.iload 5, 2) := by decide +kernel
theorem dX13_goesParts_25 : decode cX13_goesParts 25 = .ok (.iconst 0, 1) := by decide +kernel
theorem dX13_goesParts_26 : decode cX13_goesParts 26 = .ok (.aload_n 0, 1) := by decide +kernel
theorem dX13_goesParts_27 : decode cX13_goesParts 27 = .ok (.getfield 13, 3) := by decide +kernel
theorem dX13_goesParts_30 : decode cX13_goesParts 30 = .ok (.iconst 1, 1) := by decide +kernel
theorem dX13_goesParts_31 : decode cX13_goesParts 31 = .ok (.isub, 1) := by decide +kernel
theorem dX13_goesParts_32 : decode cX13_goesParts 32 = .ok (.invokestatic 198, 3) := by decide +kernel
theorem dX13_goesParts_35 : decode cX13_goesParts 35 = .ok (.ifCond .eq 34, 3) := by decide +kernel
theorem dX13_goesParts_38 : decode cX13_goesParts 38 = .ok (.aload_n 0, 1) := by decide +kernel
theorem dX13_goesParts_39 : decode cX13_goesParts 39 = .ok (.getfield 17, 3) := by decide +kernel
theorem dX13_goesParts_42 : decode cX13_goesParts 42 = .ok (.iload 5, 2) := by decide +kernel
theorem dX13_goesParts_44 : decode cX13_goesParts 44 = .ok (.iaload, 1) := by decide +kernel
theorem dX13_goesParts_45 : decode cX13_goesParts 45 = .ok (.ifCond .gt 15, 3) := by decide +kernel
theorem dX13_goesParts_48 : decode cX13_goesParts 48 = .ok (.aload_n 0, 1) := by decide +kernel
theorem dX13_goesParts_49 : decode cX13_goesParts 49 = .ok (.getfield 17, 3) := by decide +kernel
theorem dX13_goesParts_52 : decode cX13_goesParts 52 = .ok (.iload 5, 2) := by decide +kernel
theorem dX13_goesParts_54 : decode cX13_goesParts 54 = .ok (.iload_n 2, 1) := by decide +kernel
theorem dX13_goesParts_55 : decode cX13_goesParts 55 = .ok (.isub, 1) := by decide +kernel
theorem dX13_goesParts_56 : decode cX13_goesParts 56 = .ok (.iaload, 1) := by decide +kernel
theorem dX13_goesParts_57 : decode cX13_goesParts 57 = .ok (.ifCond .ne 12, 3) := by decide +kernel
theorem dX13_goesParts_60 : decode cX13_goesParts 60 = .ok (.iload 5, 2) := by decide +kernel
theorem dX13_goesParts_62 : decode cX13_goesParts 62 = .ok (.iload_n 2, 1) := by decide +kernel
theorem dX13_goesParts_63 : decode cX13_goesParts 63 = .ok (.iadd, 1) := by decide +kernel
theorem dX13_goesParts_64 : decode cX13_goesParts 64 = .ok (.istore 5, 2) := by decide +kernel
theorem dX13_goesParts_66 : decode cX13_goesParts 66 = .ok (.goto (-43), 3) := by decide +kernel
theorem dX13_goesParts_69 : decode cX13_goesParts 69 = .ok (.aload_n 0, 1) := by decide +kernel
theorem dX13_goesParts_70 : decode cX13_goesParts 70 = .ok (.getfield 296, 3) := by decide +kernel
theorem dX13_goesParts_73 : decode cX13_goesParts 73 = .ok (.istore 6, 2) := by decide +kernel
theorem dX13_goesParts_75 : decode cX13_goesParts 75 = .ok (.aload_n 0, 1) := by decide +kernel
theorem dX13_goesParts_76 : decode cX13_goesParts 76 = .ok (.getfield 299, 3) := by decide +kernel
theorem dX13_goesParts_79 : decode cX13_goesParts 79 = .ok (.istore 7, 2) := by decide +kernel
theorem dX13_goesParts_81 : decode cX13_goesParts 81 = .ok (.iload 5, 2) := by decide +kernel
theorem dX13_goesParts_83 : decode cX13_goesParts 83 = .ok (.iconst 0, 1) := by decide +kernel
theorem dX13_goesParts_84 : decode cX13_goesParts 84 = .ok (.aload_n 0, 1) := by decide +kernel
theorem dX13_goesParts_85 : decode cX13_goesParts 85 = .ok (.getfield 13, 3) := by decide +kernel
theorem dX13_goesParts_88 : decode cX13_goesParts 88 = .ok (.iconst 1, 1) := by decide +kernel
theorem dX13_goesParts_89 : decode cX13_goesParts 89 = .ok (.isub, 1) := by decide +kernel
theorem dX13_goesParts_90 : decode cX13_goesParts 90 = .ok (.invokestatic 198, 3) := by decide +kernel
theorem dX13_goesParts_93 : decode cX13_goesParts 93 = .ok (.ifCond .eq 13, 3) := by decide +kernel
theorem dX13_goesParts_96 : decode cX13_goesParts 96 = .ok (.aload_n 0, 1) := by decide +kernel
theorem dX13_goesParts_97 : decode cX13_goesParts 97 = .ok (.iload 5, 2) := by decide +kernel
theorem dX13_goesParts_99 : decode cX13_goesParts 99 = .ok (.iconst 0, 1) := by decide +kernel
theorem dX13_goesParts_100 : decode cX13_goesParts 100 = .ok (.invokevirtual 306, 3) := by decide +kernel
theorem dX13_goesParts_103 : decode cX13_goesParts 103 = .ok (.goto 64, 3) := by decide +kernel
theorem dX13_goesParts_106 : decode cX13_goesParts 106 = .ok (.aload_n 0, 1) := by decide +kernel
theorem dX13_goesParts_107 : decode cX13_goesParts 107 = .ok (.iload_n 2, 1) := by decide +kernel
theorem dX13_goesParts_108 : decode cX13_goesParts 108 = .ok (.ifCond .le 12, 3) := by decide +kernel
theorem dX13_goesParts_111 : decode cX13_goesParts 111 = .ok (.aload_n 0, 1) := by decide +kernel
theorem dX13_goesParts_112 : decode cX13_goesParts 112 = .ok (.getfield 13, 3) := by decide +kernel
theorem dX13_goesParts_115 : decode cX13_goesParts 115 = .ok (.iconst 1, 1) := by decide +kernel
theorem dX13_goesParts_116 : decode cX13_goesParts 116 = .ok (.isub, 1) := by decide +kernel
theorem dX13_goesParts_117 : decode cX13_goesParts 117 = .ok (.goto 4, 3) := by decide +kernel
theorem dX13_goesParts_120 : decode cX13_goesParts 120 = .ok (.iconst 0, 1) := by decide +kernel
theorem dX13_goesParts_121 : decode cX13_goesParts 121 = .ok (.iload_n 2, 1) := by decide +kernel
theorem dX13_goesParts_122 : decode cX13_goesParts 122 = .ok (.ifCond .le 16, 3) := by decide +kernel
theorem dX13_goesParts_125 : decode cX13_goesParts 125 = .ok (.aload_n 0, 1) := by decide +kernel
theorem dX13_goesParts_126 : decode cX13_goesParts 126 = .ok (.aload_n 0, 1) := by decide +kernel
theorem dX13_goesParts_127 : decode cX13_goesParts 127 = .ok (.getfield 13, 3) := by decide +kernel
theorem dX13_goesParts_130 : decode cX13_goesParts 130 = .ok (.iconst 1, 1) := by decide +kernel
theorem dX13_goesParts_131 : decode cX13_goesParts 131 = .ok (.isub, 1) := by decide +kernel
theorem dX13_goesParts_132 : decode cX13_goesParts 132 = .ok (.invokevirtual 309, 3) := by decide +kernel
theorem dX13_goesParts_135 : decode cX13_goesParts 135 = .ok (.goto 4, 3) := by decide +kernel
theorem dX13_goesParts_138 : decode cX13_goesParts 138 = .ok (.iconst 0, 1) := by decide +kernel
theorem dX13_goesParts_139 : decode cX13_goesParts 139 = .ok (.invokevirtual 306, 3) := by decide +kernel
theorem dX13_goesParts_142 : decode cX13_goesParts 142 = .ok (.aload_n 0, 1) := by decide +kernel
theorem dX13_goesParts_143 : decode cX13_goesParts 143 = .ok (.getfield 296, 3) := by decide +kernel
theorem dX13_goesParts_146 : decode cX13_goesParts 146 = .ok (.iload 6, 2) := by decide +kernel
theorem dX13_goesParts_148 : decode cX13_goesParts 148 = .ok (.if_icmp .ne 12, 3) := by decide +kernel
theorem dX13_goesParts_151 : decode cX13_goesParts 151 = .ok (.aload_n 0, 1) := by decide +kernel
theorem dX13_goesParts_152 : decode cX13_goesParts 152 = .ok (.getfield 299, 3) := by decide +kernel
theorem dX13_goesParts_155 : decode cX13_goesParts 155 = .ok (.iload 7, 2) := by decide +kernel
theorem dX13_goesParts_157 : decode cX13_goesParts 157 = .ok (.if_icmp .eq 7, 3) := by decide +kernel
theorem dX13_goesParts_160 : decode cX13_goesParts 160 = .ok (.iconst 1, 1) := by decide +kernel
theorem dX13_goesParts_161 : decode cX13_goesParts 161 = .ok (.goto 4, 3) := by decide +kernel
theorem dX13_goesParts_164 : decode cX13_goesParts 164 = .ok (.iconst 0, 1) := by decide +kernel
theorem dX13_goesParts_165 : decode cX13_goesParts 165 = .ok (.istore 4, 2) := by decide +kernel
theorem dX13_goesParts_167 : decode cX13_goesParts 167 = .ok (.iload_n 3, 1) := by decide +kernel
theorem dX13_goesParts_168 : decode cX13_goesParts 168 = .ok (.iload 4, 2) := by decide +kernel
theorem dX13_goesParts_170 : decode cX13_goesParts 170 = .ok (.ifCond .eq 7, 3) := by decide +kernel
theorem dX13_goesParts_173 : decode cX13_goesParts 173 = .ok (.iconst 1, 1) := by decide +kernel
theorem dX13_goesParts_174 : decode cX13_goesParts 174 = .ok (.goto 4, 3) := by decide +kernel
theorem dX13_goesParts_177 : decode cX13_goesParts 177 = .ok (.iconst 0, 1) := by decide +kernel
theorem dX13_goesParts_178 : decode cX13_goesParts 178 = .ok (.iadd, 1) := by decide +kernel
theorem dX13_goesParts_179 : decode cX13_goesParts 179 = .ok (.istore_n 3, 1) := by decide +kernel
theorem dX13_goesParts_180 : decode cX13_goesParts 180 = .ok (.goto (-175), 3) := by decide +kernel
theorem dX13_goesParts_183 : decode cX13_goesParts 183 = .ok (.iload_n 3, 1) := by decide +kernel
theorem dX13_goesParts_184 : decode cX13_goesParts 184 = .ok (.ifCond .le 7, 3) := by decide +kernel
theorem dX13_goesParts_187 : decode cX13_goesParts 187 = .ok (.iconst 1, 1) := by decide +kernel
theorem dX13_goesParts_188 : decode cX13_goesParts 188 = .ok (.goto 4, 3) := by decide +kernel
theorem dX13_goesParts_191 : decode cX13_goesParts 191 = .ok (.iconst 0, 1) := by decide +kernel
theorem dX13_goesParts_192 : decode cX13_goesParts 192 = .ok (.ireturn, 1) := by decide +kernel
theorem dX13_goesSign_0 : decode cX13_goesSign 0 = .ok (.iload_n 1, 1) := by decide +kernel
theorem dX13_goesSign_1 : decode cX13_goesSign 1 = .ok (.bipush 102, 2) := by decide +kernel
theorem dX13_goesSign_3 : decode cX13_goesSign 3 = .ok (.if_icmp .eq 9, 3) := by decide +kernel
theorem dX13_goesSign_6 : decode cX13_goesSign 6 = .ok (.iload_n 1, 1) := by decide +kernel
theorem dX13_goesSign_7 : decode cX13_goesSign 7 = .ok (.bipush 116, 2) := by decide +kernel
theorem dX13_goesSign_9 : decode cX13_goesSign 9 = .ok (.if_icmp .ne 7, 3) := by decide +kernel
theorem dX13_goesSign_12 : decode cX13_goesSign 12 = .ok (.iconst 1, 1) := by decide +kernel
theorem dX13_goesSign_13 : decode cX13_goesSign 13 = .ok (.goto 4, 3) := by decide +kernel
theorem dX13_goesSign_16 : decode cX13_goesSign 16 = .ok (.iconst (-1), 1) := by decide +kernel
theorem dX13_goesSign_17 : decode cX13_goesSign 17 = .ok (.istore 4, 2) := by decide +kernel
theorem dX13_goesSign_19 : decode cX13_goesSign 19 = .ok (.iload_n 3, 1) := by decide +kernel
theorem dX13_goesSign_20 : decode cX13_goesSign 20 = .ok (.istore 5, 2) := by decide +kernel
theorem dX13_goesSign_22 : decode cX13_goesSign 22 = .ok (.aload_n 0, 1) := by decide +kernel
theorem dX13_goesSign_23 : decode cX13_goesSign 23 = .ok (.getfield 299, 3) := by decide +kernel
theorem dX13_goesSign_26 : decode cX13_goesSign 26 = .ok (.istore 6, 2) := by decide +kernel
theorem dX13_goesSign_28 : decode cX13_goesSign 28 = .ok (.iload 5, 2) := by decide +kernel
theorem dX13_goesSign_30 : decode cX13_goesSign 30 = .ok (.ifCond .le 59, 3) := by decide +kernel
theorem dX13_goesSign_33 : decode cX13_goesSign 33 = .ok (.iload 6, 2) := by decide +kernel
theorem dX13_goesSign_35 : decode cX13_goesSign 35 = .ok (.iload 4, 2) := by decide +kernel
theorem dX13_goesSign_37 : decode cX13_goesSign 37 = .ok (.iadd, 1) := by decide +kernel
theorem dX13_goesSign_38 : decode cX13_goesSign 38 = .ok (.istore 6, 2) := by decide +kernel
theorem dX13_goesSign_40 : decode cX13_goesSign 40 = .ok (.iload 6, 2) := by decide +kernel
theorem dX13_goesSign_42 : decode cX13_goesSign 42 = .ok (.iconst 0, 1) := by decide +kernel
theorem dX13_goesSign_43 : decode cX13_goesSign 43 = .ok (.aload_n 0, 1) := by decide +kernel
theorem dX13_goesSign_44 : decode cX13_goesSign 44 = .ok (.getfield 17, 3) := by decide +kernel
theorem dX13_goesSign_47 : decode cX13_goesSign 47 = .ok (.aload_n 0, 1) := by decide +kernel
theorem dX13_goesSign_48 : decode cX13_goesSign 48 = .ok (.getfield 296, 3) := by decide +kernel
theorem dX13_goesSign_51 : decode cX13_goesSign 51 = .ok (.iaload, 1) := by decide +kernel
theorem dX13_goesSign_52 : decode cX13_goesSign 52 = .ok (.iconst 1, 1) := by decide +kernel
theorem dX13_goesSign_53 : decode cX13_goesSign 53 = .ok (.isub, 1) := by decide +kernel
theorem dX13_goesSign_54 : decode cX13_goesSign 54 = .ok (.invokestatic 198, 3) := by decide +kernel
theorem dX13_goesSign_57 : decode cX13_goesSign 57 = .ok (.ifCond .ne 5, 3) := by decide +kernel
theorem dX13_goesSign_60 : decode cX13_goesSign 60 = .ok (.iconst 0, 1) := by decide +kernel
theorem dX13_goesSign_61 : decode cX13_goesSign 61 = .ok (.ireturn, 1) := by decide +kernel
theorem dX13_goesSign_62 : decode cX13_goesSign 62 = .ok (.iload 5, 2) := by decide +kernel
theorem dX13_goesSign_64 : decode cX13_goesSign 64 = .ok (.aload_n 0, 1) := by decide +kernel
theorem dX13_goesSign_65 : decode cX13_goesSign 65 = .ok (.aload_n 0, 1) := by decide +kernel
theorem dX13_goesSign_66 : decode cX13_goesSign 66 = .ok (.getfield 296, 3) := by decide +kernel
theorem dX13_goesSign_69 : decode cX13_goesSign 69 = .ok (.iload 6, 2) := by decide +kernel
theorem dX13_goesSign_71 : decode cX13_goesSign 71 = .ok (.invokevirtual 206, 3) := by decide +kernel
theorem dX13_goesSign_74 : decode cX13_goesSign 74 = .ok (.iload_n 2, 1) := by decide +kernel
theorem dX13_goesSign_75 : decode cX13_goesSign 75 = .ok (.if_icmp .ne 7, 3) := by decide +kernel
theorem dX13_goesSign_78 : decode cX13_goesSign 78 = .ok (.iconst 1, 1) := by decide +kernel
theorem dX13_goesSign_79 : decode cX13_goesSign 79 = .ok (.goto 4, 3) := by decide +kernel
theorem dX13_goesSign_82 : decode cX13_goesSign 82 = .ok (.iconst 0, 1) := by decide +kernel
theorem dX13_goesSign_83 : decode cX13_goesSign 83 = .ok (.isub, 1) := by decide +kernel
theorem dX13_goesSign_84 : decode cX13_goesSign 84 = .ok (.istore 5, 2) := by decide +kernel
theorem dX13_goesSign_86 : decode cX13_goesSign 86 = .ok (.goto (-58), 3) := by decide +kernel
theorem dX13_goesSign_89 : decode cX13_goesSign 89 = .ok (.aload_n 0, 1) := by decide +kernel
theorem dX13_goesSign_90 : decode cX13_goesSign 90 = .ok (.iload_n 1, 1) := by decide +kernel
theorem dX13_goesSign_91 : decode cX13_goesSign 91 = .ok (.bipush 116, 2) := by decide +kernel
theorem dX13_goesSign_93 : decode cX13_goesSign 93 = .ok (.if_icmp .ne 10, 3) := by decide +kernel
theorem dX13_goesSign_96 : decode cX13_goesSign 96 = .ok (.iload 6, 2) := by decide +kernel
theorem dX13_goesSign_98 : decode cX13_goesSign 98 = .ok (.iconst 1, 1) := by decide +kernel
theorem dX13_goesSign_99 : decode cX13_goesSign 99 = .ok (.isub, 1) := by decide +kernel
theorem dX13_goesSign_100 : decode cX13_goesSign 100 = .ok (.goto 18, 3) := by decide +kernel
theorem dX13_goesSign_103 : decode cX13_goesSign 103 = .ok (.iload_n 1, 1) := by decide +kernel
theorem dX13_goesSign_104 : decode cX13_goesSign 104 = .ok (.bipush 84, 2) := by decide +kernel
theorem dX13_goesSign_106 : decode cX13_goesSign 106 = .ok (.if_icmp .ne 10, 3) := by decide +kernel
theorem dX13_goesSign_109 : decode cX13_goesSign 109 = .ok (.iload 6, 2) := by decide +kernel
theorem dX13_goesSign_111 : decode cX13_goesSign 111 = .ok (.iconst 1, 1) := by decide +kernel
theorem dX13_goesSign_112 : decode cX13_goesSign 112 = .ok (.iadd, 1) := by decide +kernel
theorem dX13_goesSign_113 : decode cX13_goesSign 113 = .ok (.goto 5, 3) := by decide +kernel
theorem dX13_goesSign_116 : decode cX13_goesSign 116 = .ok (.iload 6, 2) := by decide +kernel
theorem dX13_goesSign_118 : decode cX13_goesSign 118 = .ok (.putfield 299, 3) := by decide +kernel
theorem dX13_goesSign_121 : decode cX13_goesSign 121 = .ok (.iconst 1, 1) := by decide +kernel
theorem dX13_goesSign_122 : decode cX13_goesSign 122 = .ok (.ireturn, 1) := by decide +kernel
theorem dX13_turned_0 : decode cX13_turned 0 = .ok (.iload_n 0, 1) := by decide +kernel
theorem dX13_turned_1 : decode cX13_turned 1 = .ok (.bipush 102, 2) := by decide +kernel
theorem dX13_turned_3 : decode cX13_turned 3 = .ok (.if_icmp .ne 8, 3) := by decide +kernel
theorem dX13_turned_6 : decode cX13_turned 6 = .ok (.bipush 70, 2) := by decide +kernel
theorem dX13_turned_8 : decode cX13_turned 8 = .ok (.goto 27, 3) := by decide +kernel
theorem dX13_turned_11 : decode cX13_turned 11 = .ok (.iload_n 0, 1) := by decide +kernel
theorem dX13_turned_12 : decode cX13_turned 12 = .ok (.bipush 70, 2) := by decide +kernel
theorem dX13_turned_14 : decode cX13_turned 14 = .ok (.if_icmp .ne 8, 3) := by decide +kernel
theorem dX13_turned_17 : decode cX13_turned 17 = .ok (.bipush 102, 2) := by decide +kernel
theorem dX13_turned_19 : decode cX13_turned 19 = .ok (.goto 16, 3) := by decide +kernel
theorem dX13_turned_22 : decode cX13_turned 22 = .ok (.iload_n 0, 1) := by decide +kernel
theorem dX13_turned_23 : decode cX13_turned 23 = .ok (.bipush 116, 2) := by decide +kernel
theorem dX13_turned_25 : decode cX13_turned 25 = .ok (.if_icmp .ne 8, 3) := by decide +kernel
theorem dX13_turned_28 : decode cX13_turned 28 = .ok (.bipush 84, 2) := by decide +kernel
theorem dX13_turned_30 : decode cX13_turned 30 = .ok (.goto 5, 3) := by decide +kernel
theorem dX13_turned_33 : decode cX13_turned 33 = .ok (.bipush 116, 2) := by decide +kernel
theorem dX13_turned_35 : decode cX13_turned 35 = .ok (.ireturn, 1) := by decide +kernel
theorem dX13_stands_0 : decode cX13_stands 0 = .ok (.aload_n 0, 1) := by decide +kernel
theorem dX13_stands_1 : decode cX13_stands 1 = .ok (.getfield 324, 3) := by decide +kernel
theorem dX13_stands_4 : decode cX13_stands 4 = .ok (.ifCond .le 22, 3) := by decide +kernel
theorem dX13_stands_7 : decode cX13_stands 7 = .ok (.iload_n 2, 1) := by decide +kernel
theorem dX13_stands_8 : decode cX13_stands 8 = .ok (.aload_n 0, 1) := by decide +kernel
theorem dX13_stands_9 : decode cX13_stands 9 = .ok (.getfield 324, 3) := by decide +kernel
theorem dX13_stands_12 : decode cX13_stands 12 = .ok (.iadd, 1) := by decide +kernel
theorem dX13_stands_13 : decode cX13_stands 13 = .ok (.aload_n 0, 1) := by decide +kernel
theorem dX13_stands_14 : decode cX13_stands 14 = .ok (.getfield 17, 3) := by decide +kernel
theorem dX13_stands_17 : decode cX13_stands 17 = .ok (.iload_n 1, 1) := by decide +kernel
theorem dX13_stands_18 : decode cX13_stands 18 = .ok (.iaload, 1) := by decide +kernel
theorem dX13_stands_19 : decode cX13_stands 19 = .ok (.if_icmp .gt 7, 3) := by decide +kernel
theorem dX13_stands_22 : decode cX13_stands 22 = .ok (.iconst 1, 1) := by decide +kernel
theorem dX13_stands_23 : decode cX13_stands 23 = .ok (.goto 4, 3) := by decide +kernel
theorem dX13_stands_26 : decode cX13_stands 26 = .ok (.iconst 0, 1) := by decide +kernel
theorem dX13_stands_27 : decode cX13_stands 27 = .ok (.istore_n 3, 1) := by decide +kernel
theorem dX13_stands_28 : decode cX13_stands 28 = .ok (.iconst 0, 1) := by decide +kernel
theorem dX13_stands_29 : decode cX13_stands 29 = .ok (.istore 4, 2) := by decide +kernel
theorem dX13_stands_31 : decode cX13_stands 31 = .ok (.iload 4, 2) := by decide +kernel
theorem dX13_stands_33 : decode cX13_stands 33 = .ok (.aload_n 0, 1) := by decide +kernel
theorem dX13_stands_34 : decode cX13_stands 34 = .ok (.getfield 324, 3) := by decide +kernel
theorem dX13_stands_37 : decode cX13_stands 37 = .ok (.if_icmp .ge 38, 3) := by decide +kernel
theorem dX13_stands_40 : decode cX13_stands 40 = .ok (.iload_n 3, 1) := by decide +kernel
theorem dX13_stands_41 : decode cX13_stands 41 = .ok (.ifCond .eq 34, 3) := by decide +kernel
theorem dX13_stands_44 : decode cX13_stands 44 = .ok (.aload_n 0, 1) := by decide +kernel
theorem dX13_stands_45 : decode cX13_stands 45 = .ok (.iload_n 1, 1) := by decide +kernel
theorem dX13_stands_46 : decode cX13_stands 46 = .ok (.iload_n 2, 1) := by decide +kernel
theorem dX13_stands_47 : decode cX13_stands 47 = .ok (.iload 4, 2) := by decide +kernel
theorem dX13_stands_49 : decode cX13_stands 49 = .ok (.iadd, 1) := by decide +kernel
theorem dX13_stands_50 : decode cX13_stands 50 = .ok (.invokevirtual 206, 3) := by decide +kernel
theorem dX13_stands_53 : decode cX13_stands 53 = .ok (.aload_n 0, 1) := by decide +kernel
theorem dX13_stands_54 : decode cX13_stands 54 = .ok (.getfield 89, 3) := by decide +kernel
theorem dX13_stands_57 : decode cX13_stands 57 = .ok (.iload 4, 2) := by decide +kernel
theorem dX13_stands_59 : decode cX13_stands 59 = .ok (.iaload, 1) := by decide +kernel
theorem dX13_stands_60 : decode cX13_stands 60 = .ok (.if_icmp .ne 7, 3) := by decide +kernel
theorem dX13_stands_63 : decode cX13_stands 63 = .ok (.iconst 1, 1) := by decide +kernel
theorem dX13_stands_64 : decode cX13_stands 64 = .ok (.goto 4, 3) := by decide +kernel
theorem dX13_stands_67 : decode cX13_stands 67 = .ok (.iconst 0, 1) := by decide +kernel
theorem dX13_stands_68 : decode cX13_stands 68 = .ok (.istore_n 3, 1) := by decide +kernel
theorem dX13_stands_69 : decode cX13_stands 69 = .ok (.iinc 4 1, 3) := by decide +kernel
theorem dX13_stands_72 : decode cX13_stands 72 = .ok (.goto (-41), 3) := by decide +kernel
theorem dX13_stands_75 : decode cX13_stands 75 = .ok (.iload_n 3, 1) := by decide +kernel
theorem dX13_stands_76 : decode cX13_stands 76 = .ok (.ireturn, 1) := by decide +kernel
theorem dX13_goesSought_0 : decode cX13_goesSought 0 = .ok (.aload_n 0, 1) := by decide +kernel
theorem dX13_goesSought_1 : decode cX13_goesSought 1 = .ok (.getfield 296, 3) := by decide +kernel
theorem dX13_goesSought_4 : decode cX13_goesSought 4 = .ok (.istore_n 2, 1) := by decide +kernel
theorem dX13_goesSought_5 : decode cX13_goesSought 5 = .ok (.aload_n 0, 1) := by decide +kernel
theorem dX13_goesSought_6 : decode cX13_goesSought 6 = .ok (.getfield 299, 3) := by decide +kernel
theorem dX13_goesSought_9 : decode cX13_goesSought 9 = .ok (.istore_n 3, 1) := by decide +kernel
theorem dX13_goesSought_10 : decode cX13_goesSought 10 = .ok (.iconst 0, 1) := by decide +kernel
theorem dX13_goesSought_11 : decode cX13_goesSought 11 = .ok (.istore 4, 2) := by decide +kernel
theorem dX13_goesSought_13 : decode cX13_goesSought 13 = .ok (.iload 4, 2) := by decide +kernel
theorem dX13_goesSought_15 : decode cX13_goesSought 15 = .ok (.sipush 2440, 3) := by decide +kernel
theorem dX13_goesSought_18 : decode cX13_goesSought 18 = .ok (.if_icmp .gt 136, 3) := by decide +kernel
theorem dX13_goesSought_21 : decode cX13_goesSought 21 = .ok (.iload_n 3, 1) := by decide +kernel
theorem dX13_goesSought_22 : decode cX13_goesSought 22 = .ok (.iload_n 1, 1) := by decide +kernel
theorem dX13_goesSought_23 : decode cX13_goesSought 23 = .ok (.iadd, 1) := by decide +kernel
theorem dX13_goesSought_24 : decode cX13_goesSought 24 = .ok (.istore_n 3, 1) := by decide +kernel
theorem dX13_goesSought_25 : decode cX13_goesSought 25 = .ok (.iload_n 3, 1) := by decide +kernel
theorem dX13_goesSought_26 : decode cX13_goesSought 26 = .ok (.iconst 0, 1) := by decide +kernel
theorem dX13_goesSought_27 : decode cX13_goesSought 27 = .ok (.iconst 0, 1) := by decide +kernel
theorem dX13_goesSought_28 : decode cX13_goesSought 28 = .ok (.aload_n 0, 1) := by decide +kernel
theorem dX13_goesSought_29 : decode cX13_goesSought 29 = .ok (.getfield 17, 3) := by decide +kernel
theorem dX13_goesSought_32 : decode cX13_goesSought 32 = .ok (.iload_n 2, 1) := by decide +kernel
theorem dX13_goesSought_33 : decode cX13_goesSought 33 = .ok (.iaload, 1) := by decide +kernel
theorem dX13_goesSought_34 : decode cX13_goesSought 34 = .ok (.iconst 1, 1) := by decide +kernel
theorem dX13_goesSought_35 : decode cX13_goesSought 35 = .ok (.isub, 1) := by decide +kernel
theorem dX13_goesSought_36 : decode cX13_goesSought 36 = .ok (.invokestatic 210, 3) := by decide +kernel
theorem dX13_goesSought_39 : decode cX13_goesSought 39 = .ok (.invokestatic 198, 3) := by decide +kernel
theorem dX13_goesSought_42 : decode cX13_goesSought 42 = .ok (.ifCond .ne 71, 3) := by decide +kernel
theorem dX13_goesSought_45 : decode cX13_goesSought 45 = .ok (.iload_n 2, 1) := by decide +kernel
theorem dX13_goesSought_46 : decode cX13_goesSought 46 = .ok (.iload_n 1, 1) := by decide +kernel
theorem dX13_goesSought_47 : decode cX13_goesSought 47 = .ok (.iadd, 1) := by decide +kernel
theorem dX13_goesSought_48 : decode cX13_goesSought 48 = .ok (.istore_n 2, 1) := by decide +kernel
theorem dX13_goesSought_49 : decode cX13_goesSought 49 = .ok (.iload_n 2, 1) := by decide +kernel
theorem dX13_goesSought_50 : decode cX13_goesSought 50 = .ok (.iconst 0, 1) := by decide +kernel
theorem dX13_goesSought_51 : decode cX13_goesSought 51 = .ok (.aload_n 0, 1) := by decide +kernel
theorem dX13_goesSought_52 : decode cX13_goesSought 52 = .ok (.getfield 13, 3) := by decide +kernel
theorem dX13_goesSought_55 : decode cX13_goesSought 55 = .ok (.iconst 1, 1) := by decide +kernel
theorem dX13_goesSought_56 : decode cX13_goesSought 56 = .ok (.isub, 1) := by decide +kernel
theorem dX13_goesSought_57 : decode cX13_goesSought 57 = .ok (.invokestatic 198, 3) := by decide +kernel
theorem dX13_goesSought_60 : decode cX13_goesSought 60 = .ok (.ifCond .ne 12, 3) := by decide +kernel
theorem dX13_goesSought_63 : decode cX13_goesSought 63 = .ok (.aload_n 0, 1) := by decide +kernel
theorem dX13_goesSought_64 : decode cX13_goesSought 64 = .ok (.getfield 76, 3) := by decide +kernel
theorem dX13_goesSought_67 : decode cX13_goesSought 67 = .ok (.ifCond .ne 5, 3) := by decide +kernel
theorem dX13_goesSought_70 : decode cX13_goesSought 70 = .ok (.iconst 0, 1) := by decide +kernel
theorem dX13_goesSought_71 : decode cX13_goesSought 71 = .ok (.ireturn, 1) := by decide +kernel
theorem dX13_goesSought_72 : decode cX13_goesSought 72 = .ok (.iload_n 2, 1) := by decide +kernel
theorem dX13_goesSought_73 : decode cX13_goesSought 73 = .ok (.aload_n 0, 1) := by decide +kernel
theorem dX13_goesSought_74 : decode cX13_goesSought 74 = .ok (.getfield 13, 3) := by decide +kernel
theorem dX13_goesSought_77 : decode cX13_goesSought 77 = .ok (.if_icmp .ne 7, 3) := by decide +kernel
theorem dX13_goesSought_80 : decode cX13_goesSought 80 = .ok (.iconst 0, 1) := by decide +kernel
theorem dX13_goesSought_81 : decode cX13_goesSought 81 = .ok (.goto 17, 3) := by decide +kernel
theorem dX13_goesSought_84 : decode cX13_goesSought 84 = .ok (.iload_n 2, 1) := by decide +kernel
theorem dX13_goesSought_85 : decode cX13_goesSought 85 = .ok (.ifCond .ge 12, 3) := by decide +kernel
theorem dX13_goesSought_88 : decode cX13_goesSought 88 = .ok (.aload_n 0, 1) := by decide +kernel
theorem dX13_goesSought_89 : decode cX13_goesSought 89 = .ok (.getfield 13, 3) := by decide +kernel
theorem dX13_goesSought_92 : decode cX13_goesSought 92 = .ok (.iconst 1, 1) := by decide +kernel
theorem dX13_goesSought_93 : decode cX13_goesSought 93 = .ok (.isub, 1) := by decide +kernel
theorem dX13_goesSought_94 : decode cX13_goesSought 94 = .ok (.goto 4, 3) := by decide +kernel
theorem dX13_goesSought_97 : decode cX13_goesSought 97 = .ok (.iload_n 2, 1) := by decide +kernel
theorem dX13_goesSought_98 : decode cX13_goesSought 98 = .ok (.istore_n 2, 1) := by decide +kernel
theorem dX13_goesSought_99 : decode cX13_goesSought 99 = .ok (.iload_n 1, 1) := by decide +kernel
theorem dX13_goesSought_100 : decode cX13_goesSought 100 = .ok (.ifCond .le 7, 3) := by decide +kernel
theorem dX13_goesSought_103 : decode cX13_goesSought 103 = .ok (.iconst 0, 1) := by decide +kernel
theorem dX13_goesSought_104 : decode cX13_goesSought 104 = .ok (.goto 8, 3) := by decide +kernel
theorem dX13_goesSought_107 : decode cX13_goesSought 107 = .ok (.aload_n 0, 1) := by decide +kernel
theorem dX13_goesSought_108 : decode cX13_goesSought 108 = .ok (.iload_n 2, 1) := by decide +kernel
theorem dX13_goesSought_109 : decode cX13_goesSought 109 = .ok (.invokevirtual 309, 3) := by decide +kernel
theorem dX13_goesSought_112 : decode cX13_goesSought 112 = .ok (.istore_n 3, 1) := by decide +kernel
theorem dX13_goesSought_113 : decode cX13_goesSought 113 = .ok (.aload_n 0, 1) := by decide +kernel
theorem dX13_goesSought_114 : decode cX13_goesSought 114 = .ok (.iload_n 2, 1) := by decide +kernel
theorem dX13_goesSought_115 : decode cX13_goesSought 115 = .ok (.iload_n 3, 1) := by decide +kernel
theorem dX13_goesSought_116 : decode cX13_goesSought 116 = .ok (.invokevirtual 327, 3) := by decide +kernel
theorem dX13_goesSought_119 : decode cX13_goesSought 119 = .ok (.ifCond .eq 11, 3) := by decide +kernel
theorem dX13_goesSought_122 : decode cX13_goesSought 122 = .ok (.aload_n 0, 1) := by decide +kernel
theorem dX13_goesSought_123 : decode cX13_goesSought 123 = .ok (.iload_n 2, 1) := by decide +kernel
theorem dX13_goesSought_124 : decode cX13_goesSought 124 = .ok (.iload_n 3, 1) := by decide +kernel
theorem dX13_goesSought_125 : decode cX13_goesSought 125 = .ok (.invokevirtual 306, 3) := by decide +kernel
theorem dX13_goesSought_128 : decode cX13_goesSought 128 = .ok (.iconst 1, 1) := by decide +kernel
theorem dX13_goesSought_129 : decode cX13_goesSought 129 = .ok (.ireturn, 1) := by decide +kernel
theorem dX13_goesSought_130 : decode cX13_goesSought 130 = .ok (.iload_n 2, 1) := by decide +kernel
theorem dX13_goesSought_131 : decode cX13_goesSought 131 = .ok (.aload_n 0, 1) := by decide +kernel
theorem dX13_goesSought_132 : decode cX13_goesSought 132 = .ok (.getfield 296, 3) := by decide +kernel
theorem dX13_goesSought_135 : decode cX13_goesSought 135 = .ok (.if_icmp .ne 13, 3) := by decide +kernel
theorem dX13_goesSought_138 : decode cX13_goesSought 138 = .ok (.iload_n 3, 1) := by decide +kernel
theorem dX13_goesSought_139 : decode cX13_goesSought 139 = .ok (.aload_n 0, 1) := by decide +kernel
theorem dX13_goesSought_140 : decode cX13_goesSought 140 = .ok (.getfield 299, 3) := by decide +kernel
theorem dX13_goesSought_143 : decode cX13_goesSought 143 = .ok (.if_icmp .ne 5, 3) := by decide +kernel
theorem dX13_goesSought_146 : decode cX13_goesSought 146 = .ok (.iconst 0, 1) := by decide +kernel
theorem dX13_goesSought_147 : decode cX13_goesSought 147 = .ok (.ireturn, 1) := by decide +kernel
theorem dX13_goesSought_148 : decode cX13_goesSought 148 = .ok (.iinc 4 1, 3) := by decide +kernel
theorem dX13_goesSought_151 : decode cX13_goesSought 151 = .ok (.goto (-138), 3) := by decide +kernel
theorem dX13_goesSought_154 : decode cX13_goesSought 154 = .ok (.iconst 0, 1) := by decide +kernel
theorem dX13_goesSought_155 : decode cX13_goesSought 155 = .ok (.ireturn, 1) := by decide +kernel
theorem dX13_goesSoughts_0 : decode cX13_goesSoughts 0 = .ok (.iconst 1, 1) := by decide +kernel
theorem dX13_goesSoughts_1 : decode cX13_goesSoughts 1 = .ok (.istore_n 3, 1) := by decide +kernel
theorem dX13_goesSoughts_2 : decode cX13_goesSoughts 2 = .ok (.iconst 0, 1) := by decide +kernel
theorem dX13_goesSoughts_3 : decode cX13_goesSoughts 3 = .ok (.istore 4, 2) := by decide +kernel
theorem dX13_goesSoughts_5 : decode cX13_goesSoughts 5 = .ok (.iload 4, 2) := by decide +kernel
theorem dX13_goesSoughts_7 : decode cX13_goesSoughts 7 = .ok (.iload_n 2, 1) := by decide +kernel
theorem dX13_goesSoughts_8 : decode cX13_goesSoughts 8 = .ok (.if_icmp .ge 19, 3) := by decide +kernel
theorem dX13_goesSoughts_11 : decode cX13_goesSoughts 11 = .ok (.iload_n 3, 1) := by decide +kernel
theorem dX13_goesSoughts_12 : decode cX13_goesSoughts 12 = .ok (.ifCond .eq 15, 3) := by decide +kernel
theorem dX13_goesSoughts_15 : decode cX13_goesSoughts 15 = .ok (.aload_n 0, 1) := by decide +kernel
theorem dX13_goesSoughts_16 : decode cX13_goesSoughts 16 = .ok (.iload_n 1, 1) := by decide +kernel
theorem dX13_goesSoughts_17 : decode cX13_goesSoughts 17 = .ok (.invokevirtual 330, 3) := by decide +kernel
theorem dX13_goesSoughts_20 : decode cX13_goesSoughts 20 = .ok (.istore_n 3, 1) := by decide +kernel
theorem dX13_goesSoughts_21 : decode cX13_goesSoughts 21 = .ok (.iinc 4 1, 3) := by decide +kernel
theorem dX13_goesSoughts_24 : decode cX13_goesSoughts 24 = .ok (.goto (-19), 3) := by decide +kernel
theorem dX13_goesSoughts_27 : decode cX13_goesSoughts 27 = .ok (.iload_n 3, 1) := by decide +kernel
theorem dX13_goesSoughts_28 : decode cX13_goesSoughts 28 = .ok (.ireturn, 1) := by decide +kernel
theorem dX13_other_0 : decode cX13_other 0 = .ok (.iload_n 0, 1) := by decide +kernel
theorem dX13_other_1 : decode cX13_other 1 = .ok (.lookupswitch 77 #[(40, 59), (41, 62), (91, 65), (93, 68), (123, 71), (125, 74)], 59) := by decide +kernel
theorem dX13_other_60 : decode cX13_other 60 = .ok (.bipush 41, 2) := by decide +kernel
theorem dX13_other_62 : decode cX13_other 62 = .ok (.ireturn, 1) := by decide +kernel
theorem dX13_other_63 : decode cX13_other 63 = .ok (.bipush 40, 2) := by decide +kernel
theorem dX13_other_65 : decode cX13_other 65 = .ok (.ireturn, 1) := by decide +kernel
theorem dX13_other_66 : decode cX13_other 66 = .ok (.bipush 93, 2) := by decide +kernel
theorem dX13_other_68 : decode cX13_other 68 = .ok (.ireturn, 1) := by decide +kernel
theorem dX13_other_69 : decode cX13_other 69 = .ok (.bipush 91, 2) := by decide +kernel
theorem dX13_other_71 : decode cX13_other 71 = .ok (.ireturn, 1) := by decide +kernel
theorem dX13_other_72 : decode cX13_other 72 = .ok (.bipush 125, 2) := by decide +kernel
theorem dX13_other_74 : decode cX13_other 74 = .ok (.ireturn, 1) := by decide +kernel
theorem dX13_other_75 : decode cX13_other 75 = .ok (.bipush 123, 2) := by decide +kernel
theorem dX13_other_77 : decode cX13_other 77 = .ok (.ireturn, 1) := by decide +kernel
theorem dX13_other_78 : decode cX13_other 78 = .ok (.iconst (-1), 1) := by decide +kernel
theorem dX13_other_79 : decode cX13_other 79 = .ok (.ireturn, 1) := by decide +kernel
theorem dX13_opens_0 : decode cX13_opens 0 = .ok (.iload_n 0, 1) := by decide +kernel
theorem dX13_opens_1 : decode cX13_opens 1 = .ok (.bipush 40, 2) := by decide +kernel
theorem dX13_opens_3 : decode cX13_opens 3 = .ok (.if_icmp .eq 15, 3) := by decide +kernel
theorem dX13_opens_6 : decode cX13_opens 6 = .ok (.iload_n 0, 1) := by decide +kernel
theorem dX13_opens_7 : decode cX13_opens 7 = .ok (.bipush 91, 2) := by decide +kernel
theorem dX13_opens_9 : decode cX13_opens 9 = .ok (.if_icmp .eq 9, 3) := by decide +kernel
theorem dX13_opens_12 : decode cX13_opens 12 = .ok (.iload_n 0, 1) := by decide +kernel
theorem dX13_opens_13 : decode cX13_opens 13 = .ok (.bipush 123, 2) := by decide +kernel
theorem dX13_opens_15 : decode cX13_opens 15 = .ok (.if_icmp .ne 7, 3) := by decide +kernel
theorem dX13_opens_18 : decode cX13_opens 18 = .ok (.iconst 1, 1) := by decide +kernel
theorem dX13_opens_19 : decode cX13_opens 19 = .ok (.goto 4, 3) := by decide +kernel
theorem dX13_opens_22 : decode cX13_opens 22 = .ok (.iconst 0, 1) := by decide +kernel
theorem dX13_opens_23 : decode cX13_opens 23 = .ok (.ireturn, 1) := by decide +kernel
theorem dX13_goesMatch_0 : decode cX13_goesMatch 0 = .ok (.aload_n 0, 1) := by decide +kernel
theorem dX13_goesMatch_1 : decode cX13_goesMatch 1 = .ok (.getfield 296, 3) := by decide +kernel
theorem dX13_goesMatch_4 : decode cX13_goesMatch 4 = .ok (.istore 5, 2) := by decide +kernel
theorem dX13_goesMatch_6 : decode cX13_goesMatch 6 = .ok (.aload_n 0, 1) := by decide +kernel
theorem dX13_goesMatch_7 : decode cX13_goesMatch 7 = .ok (.getfield 299, 3) := by decide +kernel
theorem dX13_goesMatch_10 : decode cX13_goesMatch 10 = .ok (.istore 6, 2) := by decide +kernel
theorem dX13_goesMatch_12 : decode cX13_goesMatch 12 = .ok (.iload 4, 2) := by decide +kernel
theorem dX13_goesMatch_14 : decode cX13_goesMatch 14 = .ok (.istore 7, 2) := by decide +kernel
theorem dX13_goesMatch_16 : decode cX13_goesMatch 16 = .ok (.iload 7, 2) := by decide +kernel
theorem dX13_goesMatch_18 : decode cX13_goesMatch 18 = .ok (.ifCond .le 147, 3) := by decide +kernel
theorem dX13_goesMatch_21 : decode cX13_goesMatch 21 = .ok (.iload 6, 2) := by decide +kernel
theorem dX13_goesMatch_23 : decode cX13_goesMatch 23 = .ok (.iload_n 3, 1) := by decide +kernel
theorem dX13_goesMatch_24 : decode cX13_goesMatch 24 = .ok (.iadd, 1) := by decide +kernel
theorem dX13_goesMatch_25 : decode cX13_goesMatch 25 = .ok (.istore 6, 2) := by decide +kernel
theorem dX13_goesMatch_27 : decode cX13_goesMatch 27 = .ok (.iload 5, 2) := by decide +kernel
theorem dX13_goesMatch_29 : decode cX13_goesMatch 29 = .ok (.iconst 0, 1) := by decide +kernel
theorem dX13_goesMatch_30 : decode cX13_goesMatch 30 = .ok (.aload_n 0, 1) := by decide +kernel
theorem dX13_goesMatch_31 : decode cX13_goesMatch 31 = .ok (.getfield 13, 3) := by decide +kernel
theorem dX13_goesMatch_34 : decode cX13_goesMatch 34 = .ok (.iconst 1, 1) := by decide +kernel
theorem dX13_goesMatch_35 : decode cX13_goesMatch 35 = .ok (.isub, 1) := by decide +kernel
theorem dX13_goesMatch_36 : decode cX13_goesMatch 36 = .ok (.invokestatic 198, 3) := by decide +kernel
theorem dX13_goesMatch_39 : decode cX13_goesMatch 39 = .ok (.ifCond .eq 68, 3) := by decide +kernel
theorem dX13_goesMatch_42 : decode cX13_goesMatch 42 = .ok (.iload 6, 2) := by decide +kernel
theorem dX13_goesMatch_44 : decode cX13_goesMatch 44 = .ok (.iconst 0, 1) := by decide +kernel
theorem dX13_goesMatch_45 : decode cX13_goesMatch 45 = .ok (.aload_n 0, 1) := by decide +kernel
theorem dX13_goesMatch_46 : decode cX13_goesMatch 46 = .ok (.getfield 17, 3) := by decide +kernel
theorem dX13_goesMatch_49 : decode cX13_goesMatch 49 = .ok (.iload 5, 2) := by decide +kernel
theorem dX13_goesMatch_51 : decode cX13_goesMatch 51 = .ok (.iaload, 1) := by decide +kernel
theorem dX13_goesMatch_52 : decode cX13_goesMatch 52 = .ok (.iconst 1, 1) := by decide +kernel
theorem dX13_goesMatch_53 : decode cX13_goesMatch 53 = .ok (.isub, 1) := by decide +kernel
theorem dX13_goesMatch_54 : decode cX13_goesMatch 54 = .ok (.invokestatic 198, 3) := by decide +kernel
theorem dX13_goesMatch_57 : decode cX13_goesMatch 57 = .ok (.ifCond .ne 50, 3) := by decide +kernel
theorem dX13_goesMatch_60 : decode cX13_goesMatch 60 = .ok (.iload 5, 2) := by decide +kernel
theorem dX13_goesMatch_62 : decode cX13_goesMatch 62 = .ok (.iload_n 3, 1) := by decide +kernel
theorem dX13_goesMatch_63 : decode cX13_goesMatch 63 = .ok (.iadd, 1) := by decide +kernel
theorem dX13_goesMatch_64 : decode cX13_goesMatch 64 = .ok (.istore 5, 2) := by decide +kernel
theorem dX13_goesMatch_66 : decode cX13_goesMatch 66 = .ok (.iload 5, 2) := by decide +kernel
theorem dX13_goesMatch_68 : decode cX13_goesMatch 68 = .ok (.iconst 0, 1) := by decide +kernel
theorem dX13_goesMatch_69 : decode cX13_goesMatch 69 = .ok (.aload_n 0, 1) := by decide +kernel
theorem dX13_goesMatch_70 : decode cX13_goesMatch 70 = .ok (.getfield 13, 3) := by decide +kernel
theorem dX13_goesMatch_73 : decode cX13_goesMatch 73 = .ok (.iconst 1, 1) := by decide +kernel
theorem dX13_goesMatch_74 : decode cX13_goesMatch 74 = .ok (.isub, 1) := by decide +kernel
theorem dX13_goesMatch_75 : decode cX13_goesMatch 75 = .ok (.invokestatic 198, 3) := by decide +kernel
theorem dX13_goesMatch_78 : decode cX13_goesMatch 78 = .ok (.ifCond .eq 23, 3) := by decide +kernel
theorem dX13_goesMatch_81 : decode cX13_goesMatch 81 = .ok (.iload_n 3, 1) := by decide +kernel
theorem dX13_goesMatch_82 : decode cX13_goesMatch 82 = .ok (.ifCond .le 7, 3) := by decide +kernel
theorem dX13_goesMatch_85 : decode cX13_goesMatch 85 = .ok (.iconst 0, 1) := by decide +kernel
theorem dX13_goesMatch_86 : decode cX13_goesMatch 86 = .ok (.goto 16, 3) := by decide +kernel
theorem dX13_goesMatch_89 : decode cX13_goesMatch 89 = .ok (.aload_n 0, 1) := by decide +kernel
theorem dX13_goesMatch_90 : decode cX13_goesMatch 90 = .ok (.getfield 17, 3) := by decide +kernel
theorem dX13_goesMatch_93 : decode cX13_goesMatch 93 = .ok (.iload 5, 2) := by decide +kernel
theorem dX13_goesMatch_95 : decode cX13_goesMatch 95 = .ok (.iaload, 1) := by decide +kernel
theorem dX13_goesMatch_96 : decode cX13_goesMatch 96 = .ok (.iconst 1, 1) := by decide +kernel
theorem dX13_goesMatch_97 : decode cX13_goesMatch 97 = .ok (.isub, 1) := by decide +kernel
theorem dX13_goesMatch_98 : decode cX13_goesMatch 98 = .ok (.goto 4, 3) := by decide +kernel
theorem dX13_goesMatch_101 : decode cX13_goesMatch 101 = .ok (.iconst 0, 1) := by decide +kernel
theorem dX13_goesMatch_102 : decode cX13_goesMatch 102 = .ok (.istore 6, 2) := by decide +kernel
theorem dX13_goesMatch_104 : decode cX13_goesMatch 104 = .ok (.goto (-77), 3) := by decide +kernel
theorem dX13_goesMatch_107 : decode cX13_goesMatch 107 = .ok (.iload 5, 2) := by decide +kernel
theorem dX13_goesMatch_109 : decode cX13_goesMatch 109 = .ok (.iconst 0, 1) := by decide +kernel
theorem dX13_goesMatch_110 : decode cX13_goesMatch 110 = .ok (.aload_n 0, 1) := by decide +kernel
theorem dX13_goesMatch_111 : decode cX13_goesMatch 111 = .ok (.getfield 13, 3) := by decide +kernel
theorem dX13_goesMatch_114 : decode cX13_goesMatch 114 = .ok (.iconst 1, 1) := by decide +kernel
theorem dX13_goesMatch_115 : decode cX13_goesMatch 115 = .ok (.isub, 1) := by decide +kernel
theorem dX13_goesMatch_116 : decode cX13_goesMatch 116 = .ok (.invokestatic 198, 3) := by decide +kernel
theorem dX13_goesMatch_119 : decode cX13_goesMatch 119 = .ok (.ifCond .ne 5, 3) := by decide +kernel
theorem dX13_goesMatch_122 : decode cX13_goesMatch 122 = .ok (.iconst 0, 1) := by decide +kernel
theorem dX13_goesMatch_123 : decode cX13_goesMatch 123 = .ok (.ireturn, 1) := by decide +kernel
theorem dX13_goesMatch_124 : decode cX13_goesMatch 124 = .ok (.iload 7, 2) := by decide +kernel
theorem dX13_goesMatch_126 : decode cX13_goesMatch 126 = .ok (.aload_n 0, 1) := by decide +kernel
theorem dX13_goesMatch_127 : decode cX13_goesMatch 127 = .ok (.iload 5, 2) := by decide +kernel
theorem dX13_goesMatch_129 : decode cX13_goesMatch 129 = .ok (.iload 6, 2) := by decide +kernel
theorem dX13_goesMatch_131 : decode cX13_goesMatch 131 = .ok (.invokevirtual 206, 3) := by decide +kernel
theorem dX13_goesMatch_134 : decode cX13_goesMatch 134 = .ok (.iload_n 1, 1) := by decide +kernel
theorem dX13_goesMatch_135 : decode cX13_goesMatch 135 = .ok (.if_icmp .ne 7, 3) := by decide +kernel
theorem dX13_goesMatch_138 : decode cX13_goesMatch 138 = .ok (.iconst 1, 1) := by decide +kernel
theorem dX13_goesMatch_139 : decode cX13_goesMatch 139 = .ok (.goto 20, 3) := by decide +kernel
theorem dX13_goesMatch_142 : decode cX13_goesMatch 142 = .ok (.aload_n 0, 1) := by decide +kernel
theorem dX13_goesMatch_143 : decode cX13_goesMatch 143 = .ok (.iload 5, 2) := by decide +kernel
theorem dX13_goesMatch_145 : decode cX13_goesMatch 145 = .ok (.iload 6, 2) := by decide +kernel
theorem dX13_goesMatch_147 : decode cX13_goesMatch 147 = .ok (.invokevirtual 206, 3) := by decide +kernel
theorem dX13_goesMatch_150 : decode cX13_goesMatch 150 = .ok (.iload_n 2, 1) := by decide +kernel
theorem dX13_goesMatch_151 : decode cX13_goesMatch 151 = .ok (.if_icmp .ne 7, 3) := by decide +kernel
theorem dX13_goesMatch_154 : decode cX13_goesMatch 154 = .ok (.iconst (-1), 1) := by decide +kernel
theorem dX13_goesMatch_155 : decode cX13_goesMatch 155 = .ok (.goto 4, 3) := by decide +kernel
theorem dX13_goesMatch_158 : decode cX13_goesMatch 158 = .ok (.iconst 0, 1) := by decide +kernel
theorem dX13_goesMatch_159 : decode cX13_goesMatch 159 = .ok (.iadd, 1) := by decide +kernel
theorem dX13_goesMatch_160 : decode cX13_goesMatch 160 = .ok (.istore 7, 2) := by decide +kernel
theorem dX13_goesMatch_162 : decode cX13_goesMatch 162 = .ok (.goto (-146), 3) := by decide +kernel
theorem dX13_goesMatch_165 : decode cX13_goesMatch 165 = .ok (.aload_n 0, 1) := by decide +kernel
theorem dX13_goesMatch_166 : decode cX13_goesMatch 166 = .ok (.iload 5, 2) := by decide +kernel
theorem dX13_goesMatch_168 : decode cX13_goesMatch 168 = .ok (.iload 6, 2) := by decide +kernel
theorem dX13_goesMatch_170 : decode cX13_goesMatch 170 = .ok (.invokevirtual 306, 3) := by decide +kernel
theorem dX13_goesMatch_173 : decode cX13_goesMatch 173 = .ok (.iconst 1, 1) := by decide +kernel
theorem dX13_goesMatch_174 : decode cX13_goesMatch 174 = .ok (.ireturn, 1) := by decide +kernel
theorem dX13_goesBracket_0 : decode cX13_goesBracket 0 = .ok (.aload_n 0, 1) := by decide +kernel
theorem dX13_goesBracket_1 : decode cX13_goesBracket 1 = .ok (.getfield 299, 3) := by decide +kernel
theorem dX13_goesBracket_4 : decode cX13_goesBracket 4 = .ok (.istore_n 1, 1) := by decide +kernel
theorem dX13_goesBracket_5 : decode cX13_goesBracket 5 = .ok (.iload_n 1, 1) := by decide +kernel
theorem dX13_goesBracket_6 : decode cX13_goesBracket 6 = .ok (.aload_n 0, 1) := by decide +kernel
theorem dX13_goesBracket_7 : decode cX13_goesBracket 7 = .ok (.getfield 17, 3) := by decide +kernel
theorem dX13_goesBracket_10 : decode cX13_goesBracket 10 = .ok (.aload_n 0, 1) := by decide +kernel
theorem dX13_goesBracket_11 : decode cX13_goesBracket 11 = .ok (.getfield 296, 3) := by decide +kernel
theorem dX13_goesBracket_14 : decode cX13_goesBracket 14 = .ok (.iaload, 1) := by decide +kernel
theorem dX13_goesBracket_15 : decode cX13_goesBracket 15 = .ok (.if_icmp .ge 25, 3) := by decide +kernel
theorem dX13_goesBracket_18 : decode cX13_goesBracket 18 = .ok (.aload_n 0, 1) := by decide +kernel
theorem dX13_goesBracket_19 : decode cX13_goesBracket 19 = .ok (.aload_n 0, 1) := by decide +kernel
theorem dX13_goesBracket_20 : decode cX13_goesBracket 20 = .ok (.getfield 296, 3) := by decide +kernel
theorem dX13_goesBracket_23 : decode cX13_goesBracket 23 = .ok (.iload_n 1, 1) := by decide +kernel
theorem dX13_goesBracket_24 : decode cX13_goesBracket 24 = .ok (.invokevirtual 206, 3) := by decide +kernel
theorem dX13_goesBracket_27 : decode cX13_goesBracket 27 = .ok (.invokestatic 333, 3) := by decide +kernel
theorem dX13_goesBracket_30 : decode cX13_goesBracket 30 = .ok (.iconst (-1), 1) := by decide +kernel
theorem dX13_goesBracket_31 : decode cX13_goesBracket 31 = .ok (.if_icmp .ne 9, 3) := by decide +kernel
theorem dX13_goesBracket_34 : decode cX13_goesBracket 34 = .ok (.iinc 1 1, 3) := by decide +kernel
theorem dX13_goesBracket_37 : decode cX13_goesBracket 37 = .ok (.goto (-32), 3) := by decide +kernel
theorem dX13_goesBracket_40 : decode cX13_goesBracket 40 = .ok (.iload_n 1, 1) := by decide +kernel
theorem dX13_goesBracket_41 : decode cX13_goesBracket 41 = .ok (.aload_n 0, 1) := by decide +kernel
theorem dX13_goesBracket_42 : decode cX13_goesBracket 42 = .ok (.getfield 17, 3) := by decide +kernel
theorem dX13_goesBracket_45 : decode cX13_goesBracket 45 = .ok (.aload_n 0, 1) := by decide +kernel
theorem dX13_goesBracket_46 : decode cX13_goesBracket 46 = .ok (.getfield 296, 3) := by decide +kernel
theorem dX13_goesBracket_49 : decode cX13_goesBracket 49 = .ok (.iaload, 1) := by decide +kernel
theorem dX13_goesBracket_50 : decode cX13_goesBracket 50 = .ok (.if_icmp .lt 5, 3) := by decide +kernel
theorem dX13_goesBracket_53 : decode cX13_goesBracket 53 = .ok (.iconst 0, 1) := by decide +kernel
theorem dX13_goesBracket_54 : decode cX13_goesBracket 54 = .ok (.ireturn, 1) := by decide +kernel
theorem dX13_goesBracket_55 : decode cX13_goesBracket 55 = .ok (.aload_n 0, 1) := by decide +kernel
theorem dX13_goesBracket_56 : decode cX13_goesBracket 56 = .ok (.aload_n 0, 1) := by decide +kernel
theorem dX13_goesBracket_57 : decode cX13_goesBracket 57 = .ok (.getfield 296, 3) := by decide +kernel
theorem dX13_goesBracket_60 : decode cX13_goesBracket 60 = .ok (.iload_n 1, 1) := by decide +kernel
theorem dX13_goesBracket_61 : decode cX13_goesBracket 61 = .ok (.invokevirtual 206, 3) := by decide +kernel
theorem dX13_goesBracket_64 : decode cX13_goesBracket 64 = .ok (.istore_n 2, 1) := by decide +kernel
theorem dX13_goesBracket_65 : decode cX13_goesBracket 65 = .ok (.aload_n 0, 1) := by decide +kernel
theorem dX13_goesBracket_66 : decode cX13_goesBracket 66 = .ok (.iload_n 1, 1) := by decide +kernel
theorem dX13_goesBracket_67 : decode cX13_goesBracket 67 = .ok (.putfield 299, 3) := by decide +kernel
theorem dX13_goesBracket_70 : decode cX13_goesBracket 70 = .ok (.aload_n 0, 1) := by decide +kernel
theorem dX13_goesBracket_71 : decode cX13_goesBracket 71 = .ok (.iload_n 2, 1) := by decide +kernel
theorem dX13_goesBracket_72 : decode cX13_goesBracket 72 = .ok (.iload_n 2, 1) := by decide +kernel
theorem dX13_goesBracket_73 : decode cX13_goesBracket 73 = .ok (.invokestatic 333, 3) := by decide +kernel
theorem dX13_goesBracket_76 : decode cX13_goesBracket 76 = .ok (.iload_n 2, 1) := by decide +kernel
theorem dX13_goesBracket_77 : decode cX13_goesBracket 77 = .ok (.invokestatic 336, 3) := by decide +kernel
theorem dX13_goesBracket_80 : decode cX13_goesBracket 80 = .ok (.ifCond .eq 7, 3) := by decide +kernel
theorem dX13_goesBracket_83 : decode cX13_goesBracket 83 = .ok (.iconst 1, 1) := by decide +kernel
theorem dX13_goesBracket_84 : decode cX13_goesBracket 84 = .ok (.goto 4, 3) := by decide +kernel
theorem dX13_goesBracket_87 : decode cX13_goesBracket 87 = .ok (.iconst (-1), 1) := by decide +kernel
theorem dX13_goesBracket_88 : decode cX13_goesBracket 88 = .ok (.iconst 1, 1) := by decide +kernel
theorem dX13_goesBracket_89 : decode cX13_goesBracket 89 = .ok (.invokevirtual 339, 3) := by decide +kernel
theorem dX13_goesBracket_92 : decode cX13_goesBracket 92 = .ok (.ireturn, 1) := by decide +kernel
theorem dX13_goesSeen_0 : decode cX13_goesSeen 0 = .ok (.aload_n 0, 1) := by decide +kernel
theorem dX13_goesSeen_1 : decode cX13_goesSeen 1 = .ok (.getfield 213, 3) := by decide +kernel
theorem dX13_goesSeen_4 : decode cX13_goesSeen 4 = .ok (.istore_n 3, 1) := by decide +kernel
theorem dX13_goesSeen_5 : decode cX13_goesSeen 5 = .ok (.iconst 0, 1) := by decide +kernel
theorem dX13_goesSeen_6 : decode cX13_goesSeen 6 = .ok (.istore 4, 2) := by decide +kernel
theorem dX13_goesSeen_8 : decode cX13_goesSeen 8 = .ok (.iload 4, 2) := by decide +kernel
theorem dX13_goesSeen_10 : decode cX13_goesSeen 10 = .ok (.iload_n 1, 1) := by decide +kernel
theorem dX13_goesSeen_11 : decode cX13_goesSeen 11 = .ok (.if_icmp .ge 53, 3) := by decide +kernel
theorem dX13_goesSeen_14 : decode cX13_goesSeen 14 = .ok (.iload_n 2, 1) := by decide +kernel
theorem dX13_goesSeen_15 : decode cX13_goesSeen 15 = .ok (.ifCond .le 13, 3) := by decide +kernel
theorem dX13_goesSeen_18 : decode cX13_goesSeen 18 = .ok (.aload_n 0, 1) := by decide +kernel
theorem dX13_goesSeen_19 : decode cX13_goesSeen 19 = .ok (.iload_n 3, 1) := by decide +kernel
theorem dX13_goesSeen_20 : decode cX13_goesSeen 20 = .ok (.invokevirtual 343, 3) := by decide +kernel
theorem dX13_goesSeen_23 : decode cX13_goesSeen 23 = .ok (.iconst 1, 1) := by decide +kernel
theorem dX13_goesSeen_24 : decode cX13_goesSeen 24 = .ok (.iadd, 1) := by decide +kernel
theorem dX13_goesSeen_25 : decode cX13_goesSeen 25 = .ok (.goto 10, 3) := by decide +kernel
theorem dX13_goesSeen_28 : decode cX13_goesSeen 28 = .ok (.aload_n 0, 1) := by decide +kernel
theorem dX13_goesSeen_29 : decode cX13_goesSeen 29 = .ok (.iload_n 3, 1) := by decide +kernel
theorem dX13_goesSeen_30 : decode cX13_goesSeen 30 = .ok (.invokevirtual 346, 3) := by decide +kernel
theorem dX13_goesSeen_33 : decode cX13_goesSeen 33 = .ok (.iconst 1, 1) := by decide +kernel
theorem dX13_goesSeen_34 : decode cX13_goesSeen 34 = .ok (.isub, 1) := by decide +kernel
theorem dX13_goesSeen_35 : decode cX13_goesSeen 35 = .ok (.istore_n 3, 1) := by decide +kernel
theorem dX13_goesSeen_36 : decode cX13_goesSeen 36 = .ok (.iload_n 3, 1) := by decide +kernel
theorem dX13_goesSeen_37 : decode cX13_goesSeen 37 = .ok (.iconst 0, 1) := by decide +kernel
theorem dX13_goesSeen_38 : decode cX13_goesSeen 38 = .ok (.aload_n 0, 1) := by decide +kernel
theorem dX13_goesSeen_39 : decode cX13_goesSeen 39 = .ok (.getfield 13, 3) := by decide +kernel
theorem dX13_goesSeen_42 : decode cX13_goesSeen 42 = .ok (.iconst 1, 1) := by decide +kernel
theorem dX13_goesSeen_43 : decode cX13_goesSeen 43 = .ok (.isub, 1) := by decide +kernel
theorem dX13_goesSeen_44 : decode cX13_goesSeen 44 = .ok (.invokestatic 198, 3) := by decide +kernel
theorem dX13_goesSeen_47 : decode cX13_goesSeen 47 = .ok (.ifCond .ne 5, 3) := by decide +kernel
theorem dX13_goesSeen_50 : decode cX13_goesSeen 50 = .ok (.iconst 0, 1) := by decide +kernel
theorem dX13_goesSeen_51 : decode cX13_goesSeen 51 = .ok (.ireturn, 1) := by decide +kernel
theorem dX13_goesSeen_52 : decode cX13_goesSeen 52 = .ok (.aload_n 0, 1) := by decide +kernel
theorem dX13_goesSeen_53 : decode cX13_goesSeen 53 = .ok (.iload_n 3, 1) := by decide +kernel
theorem dX13_goesSeen_54 : decode cX13_goesSeen 54 = .ok (.invokevirtual 346, 3) := by decide +kernel
theorem dX13_goesSeen_57 : decode cX13_goesSeen 57 = .ok (.istore_n 3, 1) := by decide +kernel
theorem dX13_goesSeen_58 : decode cX13_goesSeen 58 = .ok (.iinc 4 1, 3) := by decide +kernel
theorem dX13_goesSeen_61 : decode cX13_goesSeen 61 = .ok (.goto (-53), 3) := by decide +kernel
theorem dX13_goesSeen_64 : decode cX13_goesSeen 64 = .ok (.aload_n 0, 1) := by decide +kernel
theorem dX13_goesSeen_65 : decode cX13_goesSeen 65 = .ok (.iload_n 3, 1) := by decide +kernel
theorem dX13_goesSeen_66 : decode cX13_goesSeen 66 = .ok (.aload_n 0, 1) := by decide +kernel
theorem dX13_goesSeen_67 : decode cX13_goesSeen 67 = .ok (.getfield 219, 3) := by decide +kernel
theorem dX13_goesSeen_70 : decode cX13_goesSeen 70 = .ok (.aload_n 0, 1) := by decide +kernel
theorem dX13_goesSeen_71 : decode cX13_goesSeen 71 = .ok (.iload_n 3, 1) := by decide +kernel
theorem dX13_goesSeen_72 : decode cX13_goesSeen 72 = .ok (.invokevirtual 309, 3) := by decide +kernel
theorem dX13_goesSeen_75 : decode cX13_goesSeen 75 = .ok (.invokestatic 257, 3) := by decide +kernel
theorem dX13_goesSeen_78 : decode cX13_goesSeen 78 = .ok (.invokevirtual 306, 3) := by decide +kernel
theorem dX13_goesSeen_81 : decode cX13_goesSeen 81 = .ok (.iconst 1, 1) := by decide +kernel
theorem dX13_goesSeen_82 : decode cX13_goesSeen 82 = .ok (.ireturn, 1) := by decide +kernel
theorem dX13_goesLine_0 : decode cX13_goesLine 0 = .ok (.aload_n 0, 1) := by decide +kernel
theorem dX13_goesLine_1 : decode cX13_goesLine 1 = .ok (.iload_n 1, 1) := by decide +kernel
theorem dX13_goesLine_2 : decode cX13_goesLine 2 = .ok (.aload_n 0, 1) := by decide +kernel
theorem dX13_goesLine_3 : decode cX13_goesLine 3 = .ok (.iload_n 1, 1) := by decide +kernel
theorem dX13_goesLine_4 : decode cX13_goesLine 4 = .ok (.invokevirtual 222, 3) := by decide +kernel
theorem dX13_goesLine_7 : decode cX13_goesLine 7 = .ok (.invokevirtual 306, 3) := by decide +kernel
theorem dX13_goesLine_10 : decode cX13_goesLine 10 = .ok (.iconst 1, 1) := by decide +kernel
theorem dX13_goesLine_11 : decode cX13_goesLine 11 = .ok (.ireturn, 1) := by decide +kernel
theorem dX13_goesMark_0 : decode cX13_goesMark 0 = .ok (.aload_n 0, 1) := by decide +kernel
theorem dX13_goesMark_1 : decode cX13_goesMark 1 = .ok (.getfield 33, 3) := by decide +kernel
theorem dX13_goesMark_4 : decode cX13_goesMark 4 = .ok (.iload_n 1, 1) := by decide +kernel
theorem dX13_goesMark_5 : decode cX13_goesMark 5 = .ok (.bipush 97, 2) := by decide +kernel
theorem dX13_goesMark_7 : decode cX13_goesMark 7 = .ok (.isub, 1) := by decide +kernel
theorem dX13_goesMark_8 : decode cX13_goesMark 8 = .ok (.iaload, 1) := by decide +kernel
theorem dX13_goesMark_9 : decode cX13_goesMark 9 = .ok (.istore_n 3, 1) := by decide +kernel
theorem dX13_goesMark_10 : decode cX13_goesMark 10 = .ok (.iload_n 3, 1) := by decide +kernel
theorem dX13_goesMark_11 : decode cX13_goesMark 11 = .ok (.iconst (-1), 1) := by decide +kernel
theorem dX13_goesMark_12 : decode cX13_goesMark 12 = .ok (.if_icmp .ne 5, 3) := by decide +kernel
theorem dX13_goesMark_15 : decode cX13_goesMark 15 = .ok (.iconst 0, 1) := by decide +kernel
theorem dX13_goesMark_16 : decode cX13_goesMark 16 = .ok (.ireturn, 1) := by decide +kernel
theorem dX13_goesMark_17 : decode cX13_goesMark 17 = .ok (.aload_n 0, 1) := by decide +kernel
theorem dX13_goesMark_18 : decode cX13_goesMark 18 = .ok (.iload_n 3, 1) := by decide +kernel
theorem dX13_goesMark_19 : decode cX13_goesMark 19 = .ok (.iload_n 2, 1) := by decide +kernel
theorem dX13_goesMark_20 : decode cX13_goesMark 20 = .ok (.ifCond .eq 23, 3) := by decide +kernel
theorem dX13_goesMark_23 : decode cX13_goesMark 23 = .ok (.aload_n 0, 1) := by decide +kernel
theorem dX13_goesMark_24 : decode cX13_goesMark 24 = .ok (.getfield 36, 3) := by decide +kernel
theorem dX13_goesMark_27 : decode cX13_goesMark 27 = .ok (.iload_n 1, 1) := by decide +kernel
theorem dX13_goesMark_28 : decode cX13_goesMark 28 = .ok (.bipush 97, 2) := by decide +kernel
theorem dX13_goesMark_30 : decode cX13_goesMark 30 = .ok (.isub, 1) := by decide +kernel
theorem dX13_goesMark_31 : decode cX13_goesMark 31 = .ok (.iaload, 1) := by decide +kernel
theorem dX13_goesMark_32 : decode cX13_goesMark 32 = .ok (.aload_n 0, 1) := by decide +kernel
theorem dX13_goesMark_33 : decode cX13_goesMark 33 = .ok (.iload_n 3, 1) := by decide +kernel
theorem dX13_goesMark_34 : decode cX13_goesMark 34 = .ok (.invokevirtual 309, 3) := by decide +kernel
theorem dX13_goesMark_37 : decode cX13_goesMark 37 = .ok (.invokestatic 257, 3) := by decide +kernel
theorem dX13_goesMark_40 : decode cX13_goesMark 40 = .ok (.goto 8, 3) := by decide +kernel
theorem dX13_goesMark_43 : decode cX13_goesMark 43 = .ok (.aload_n 0, 1) := by decide +kernel
theorem dX13_goesMark_44 : decode cX13_goesMark 44 = .ok (.iload_n 3, 1) := by decide +kernel
theorem dX13_goesMark_45 : decode cX13_goesMark 45 = .ok (.invokevirtual 222, 3) := by decide +kernel
theorem dX13_goesMark_48 : decode cX13_goesMark 48 = .ok (.invokevirtual 306, 3) := by decide +kernel
theorem dX13_goesMark_51 : decode cX13_goesMark 51 = .ok (.iconst 1, 1) := by decide +kernel
theorem dX13_goesMark_52 : decode cX13_goesMark 52 = .ok (.ireturn, 1) := by decide +kernel
theorem dX13_goesFound_0 : decode cX13_goesFound 0 = .ok (.aload_n 0, 1) := by decide +kernel
theorem dX13_goesFound_1 : decode cX13_goesFound 1 = .ok (.iload_n 1, 1) := by decide +kernel
theorem dX13_goesFound_2 : decode cX13_goesFound 2 = .ok (.bipush 102, 2) := by decide +kernel
theorem dX13_goesFound_4 : decode cX13_goesFound 4 = .ok (.if_icmp .eq 9, 3) := by decide +kernel
theorem dX13_goesFound_7 : decode cX13_goesFound 7 = .ok (.iload_n 1, 1) := by decide +kernel
theorem dX13_goesFound_8 : decode cX13_goesFound 8 = .ok (.bipush 116, 2) := by decide +kernel
theorem dX13_goesFound_10 : decode cX13_goesFound 10 = .ok (.if_icmp .ne 7, 3) := by decide +kernel
theorem dX13_goesFound_13 : decode cX13_goesFound 13 = .ok (.iconst 1, 1) := by decide +kernel
theorem dX13_goesFound_14 : decode cX13_goesFound 14 = .ok (.goto 4, 3) := by decide +kernel
theorem dX13_goesFound_17 : decode cX13_goesFound 17 = .ok (.iconst 0, 1) := by decide +kernel
theorem dX13_goesFound_18 : decode cX13_goesFound 18 = .ok (.putfield 349, 3) := by decide +kernel
theorem dX13_goesFound_21 : decode cX13_goesFound 21 = .ok (.iload_n 1, 1) := by decide +kernel
theorem dX13_goesFound_22 : decode cX13_goesFound 22 = .ok (.ifCond .eq 17, 3) := by decide +kernel
theorem dX13_goesFound_25 : decode cX13_goesFound 25 = .ok (.aload_n 0, 1) := by decide +kernel
theorem dX13_goesFound_26 : decode cX13_goesFound 26 = .ok (.iload_n 1, 1) := by decide +kernel
theorem dX13_goesFound_27 : decode cX13_goesFound 27 = .ok (.iload_n 2, 1) := by decide +kernel
theorem dX13_goesFound_28 : decode cX13_goesFound 28 = .ok (.iload_n 3, 1) := by decide +kernel
theorem dX13_goesFound_29 : decode cX13_goesFound 29 = .ok (.invokevirtual 352, 3) := by decide +kernel
theorem dX13_goesFound_32 : decode cX13_goesFound 32 = .ok (.ifCond .eq 7, 3) := by decide +kernel
theorem dX13_goesFound_35 : decode cX13_goesFound 35 = .ok (.iconst 1, 1) := by decide +kernel
theorem dX13_goesFound_36 : decode cX13_goesFound 36 = .ok (.goto 4, 3) := by decide +kernel
theorem dX13_goesFound_39 : decode cX13_goesFound 39 = .ok (.iconst 0, 1) := by decide +kernel
theorem dX13_goesFound_40 : decode cX13_goesFound 40 = .ok (.ireturn, 1) := by decide +kernel
theorem dX13_moves_0 : decode cX13_moves 0 = .ok (.aload_n 0, 1) := by decide +kernel
theorem dX13_moves_1 : decode cX13_moves 1 = .ok (.aload_n 0, 1) := by decide +kernel
theorem dX13_moves_2 : decode cX13_moves 2 = .ok (.getfield 213, 3) := by decide +kernel
theorem dX13_moves_5 : decode cX13_moves 5 = .ok (.aload_n 0, 1) := by decide +kernel
theorem dX13_moves_6 : decode cX13_moves 6 = .ok (.getfield 216, 3) := by decide +kernel
theorem dX13_moves_9 : decode cX13_moves 9 = .ok (.invokevirtual 306, 3) := by decide +kernel
theorem dX13_moves_12 : decode cX13_moves 12 = .ok (.aload_n 0, 1) := by decide +kernel
theorem dX13_moves_13 : decode cX13_moves 13 = .ok (.iconst 0, 1) := by decide +kernel
theorem dX13_moves_14 : decode cX13_moves 14 = .ok (.putfield 349, 3) := by decide +kernel
theorem dX13_moves_17 : decode cX13_moves 17 = .ok (.iload 5, 2) := by decide +kernel
theorem dX13_moves_19 : decode cX13_moves 19 = .ok (.ifCond .eq 15, 3) := by decide +kernel
theorem dX13_moves_22 : decode cX13_moves 22 = .ok (.aload_n 0, 1) := by decide +kernel
theorem dX13_moves_23 : decode cX13_moves 23 = .ok (.getfield 17, 3) := by decide +kernel
theorem dX13_moves_26 : decode cX13_moves 26 = .ok (.aload_n 0, 1) := by decide +kernel
theorem dX13_moves_27 : decode cX13_moves 27 = .ok (.getfield 213, 3) := by decide +kernel
theorem dX13_moves_30 : decode cX13_moves 30 = .ok (.iaload, 1) := by decide +kernel
theorem dX13_moves_31 : decode cX13_moves 31 = .ok (.goto 11, 3) := by decide +kernel
theorem dX13_moves_34 : decode cX13_moves 34 = .ok (.aload_n 0, 1) := by decide +kernel
theorem dX13_moves_35 : decode cX13_moves 35 = .ok (.aload_n 0, 1) := by decide +kernel
theorem dX13_moves_36 : decode cX13_moves 36 = .ok (.getfield 213, 3) := by decide +kernel
theorem dX13_moves_39 : decode cX13_moves 39 = .ok (.invokevirtual 309, 3) := by decide +kernel
theorem dX13_moves_42 : decode cX13_moves 42 = .ok (.istore 6, 2) := by decide +kernel
theorem dX13_moves_44 : decode cX13_moves 44 = .ok (.iload_n 1, 1) := by decide +kernel
theorem dX13_moves_45 : decode cX13_moves 45 = .ok (.lookupswitch 545 #[(36, 311), (37, 506), (39, 533), (44, 417), (47, 516), (48, 290), (59, 403), (70, 395), (71, 445), (78, 516), (84, 395), (94, 297), (98, 378), (101, 384), (102, 395), (104, 211), (106, 268), (107, 268), (108, 238), (110, 516), (116, 395), (119, 370), (123, 489), (125, 489), (359, 445)], 211) := by decide +kernel
theorem dX13_moves_256 : decode cX13_moves 256 = .ok (.aload_n 0, 1) := by decide +kernel
theorem dX13_moves_257 : decode cX13_moves 257 = .ok (.iconst 0, 1) := by decide +kernel
theorem dX13_moves_258 : decode cX13_moves 258 = .ok (.aload_n 0, 1) := by decide +kernel
theorem dX13_moves_259 : decode cX13_moves 259 = .ok (.getfield 216, 3) := by decide +kernel
theorem dX13_moves_262 : decode cX13_moves 262 = .ok (.iload_n 3, 1) := by decide +kernel
theorem dX13_moves_263 : decode cX13_moves 263 = .ok (.isub, 1) := by decide +kernel
theorem dX13_moves_264 : decode cX13_moves 264 = .ok (.invokestatic 210, 3) := by decide +kernel
theorem dX13_moves_267 : decode cX13_moves 267 = .ok (.putfield 299, 3) := by decide +kernel
theorem dX13_moves_270 : decode cX13_moves 270 = .ok (.aload_n 0, 1) := by decide +kernel
theorem dX13_moves_271 : decode cX13_moves 271 = .ok (.getfield 216, 3) := by decide +kernel
theorem dX13_moves_274 : decode cX13_moves 274 = .ok (.ifCond .le 7, 3) := by decide +kernel
theorem dX13_moves_277 : decode cX13_moves 277 = .ok (.iconst 1, 1) := by decide +kernel
theorem dX13_moves_278 : decode cX13_moves 278 = .ok (.goto 4, 3) := by decide +kernel
theorem dX13_moves_281 : decode cX13_moves 281 = .ok (.iconst 0, 1) := by decide +kernel
theorem dX13_moves_282 : decode cX13_moves 282 = .ok (.ireturn, 1) := by decide +kernel
theorem dX13_moves_283 : decode cX13_moves 283 = .ok (.aload_n 0, 1) := by decide +kernel
theorem dX13_moves_284 : decode cX13_moves 284 = .ok (.aload_n 0, 1) := by decide +kernel
theorem dX13_moves_285 : decode cX13_moves 285 = .ok (.getfield 216, 3) := by decide +kernel
theorem dX13_moves_288 : decode cX13_moves 288 = .ok (.iload_n 3, 1) := by decide +kernel
theorem dX13_moves_289 : decode cX13_moves 289 = .ok (.iadd, 1) := by decide +kernel
theorem dX13_moves_290 : decode cX13_moves 290 = .ok (.iload 6, 2) := by decide +kernel
theorem dX13_moves_292 : decode cX13_moves 292 = .ok (.invokestatic 257, 3) := by decide +kernel
theorem dX13_moves_295 : decode cX13_moves 295 = .ok (.putfield 299, 3) := by decide +kernel
theorem dX13_moves_298 : decode cX13_moves 298 = .ok (.aload_n 0, 1) := by decide +kernel
theorem dX13_moves_299 : decode cX13_moves 299 = .ok (.getfield 216, 3) := by decide +kernel
theorem dX13_moves_302 : decode cX13_moves 302 = .ok (.iload 6, 2) := by decide +kernel
theorem dX13_moves_304 : decode cX13_moves 304 = .ok (.if_icmp .ge 7, 3) := by decide +kernel
theorem dX13_moves_307 : decode cX13_moves 307 = .ok (.iconst 1, 1) := by decide +kernel
theorem dX13_moves_308 : decode cX13_moves 308 = .ok (.goto 4, 3) := by decide +kernel
theorem dX13_moves_311 : decode cX13_moves 311 = .ok (.iconst 0, 1) := by decide +kernel
theorem dX13_moves_312 : decode cX13_moves 312 = .ok (.ireturn, 1) := by decide +kernel
theorem dX13_moves_313 : decode cX13_moves 313 = .ok (.aload_n 0, 1) := by decide +kernel
theorem dX13_moves_314 : decode cX13_moves 314 = .ok (.iconst 2, 1) := by decide +kernel
theorem dX13_moves_315 : decode cX13_moves 315 = .ok (.putfield 349, 3) := by decide +kernel
theorem dX13_moves_318 : decode cX13_moves 318 = .ok (.aload_n 0, 1) := by decide +kernel
theorem dX13_moves_319 : decode cX13_moves 319 = .ok (.iload_n 3, 1) := by decide +kernel
theorem dX13_moves_320 : decode cX13_moves 320 = .ok (.iload_n 1, 1) := by decide +kernel
theorem dX13_moves_321 : decode cX13_moves 321 = .ok (.bipush 106, 2) := by decide +kernel
theorem dX13_moves_323 : decode cX13_moves 323 = .ok (.if_icmp .ne 7, 3) := by decide +kernel
theorem dX13_moves_326 : decode cX13_moves 326 = .ok (.iconst 1, 1) := by decide +kernel
theorem dX13_moves_327 : decode cX13_moves 327 = .ok (.goto 4, 3) := by decide +kernel
theorem dX13_moves_330 : decode cX13_moves 330 = .ok (.iconst (-1), 1) := by decide +kernel
theorem dX13_moves_331 : decode cX13_moves 331 = .ok (.invokevirtual 355, 3) := by decide +kernel
theorem dX13_moves_334 : decode cX13_moves 334 = .ok (.ireturn, 1) := by decide +kernel
theorem dX13_moves_335 : decode cX13_moves 335 = .ok (.aload_n 0, 1) := by decide +kernel
theorem dX13_moves_336 : decode cX13_moves 336 = .ok (.iconst 0, 1) := by decide +kernel
theorem dX13_moves_337 : decode cX13_moves 337 = .ok (.putfield 299, 3) := by decide +kernel
theorem dX13_moves_340 : decode cX13_moves 340 = .ok (.iconst 1, 1) := by decide +kernel
theorem dX13_moves_341 : decode cX13_moves 341 = .ok (.ireturn, 1) := by decide +kernel
theorem dX13_moves_342 : decode cX13_moves 342 = .ok (.aload_n 0, 1) := by decide +kernel
theorem dX13_moves_343 : decode cX13_moves 343 = .ok (.aload_n 0, 1) := by decide +kernel
theorem dX13_moves_344 : decode cX13_moves 344 = .ok (.aload_n 0, 1) := by decide +kernel
theorem dX13_moves_345 : decode cX13_moves 345 = .ok (.getfield 213, 3) := by decide +kernel
theorem dX13_moves_348 : decode cX13_moves 348 = .ok (.invokevirtual 222, 3) := by decide +kernel
theorem dX13_moves_351 : decode cX13_moves 351 = .ok (.putfield 299, 3) := by decide +kernel
theorem dX13_moves_354 : decode cX13_moves 354 = .ok (.iconst 1, 1) := by decide +kernel
theorem dX13_moves_355 : decode cX13_moves 355 = .ok (.ireturn, 1) := by decide +kernel
theorem dX13_moves_356 : decode cX13_moves 356 = .ok (.aload_n 0, 1) := by decide +kernel
theorem dX13_moves_357 : decode cX13_moves 357 = .ok (.iconst 1, 1) := by decide +kernel
theorem dX13_moves_358 : decode cX13_moves 358 = .ok (.putfield 349, 3) := by decide +kernel
theorem dX13_moves_361 : decode cX13_moves 361 = .ok (.aload_n 0, 1) := by decide +kernel
theorem dX13_moves_362 : decode cX13_moves 362 = .ok (.aload_n 0, 1) := by decide +kernel
theorem dX13_moves_363 : decode cX13_moves 363 = .ok (.getfield 213, 3) := by decide +kernel
theorem dX13_moves_366 : decode cX13_moves 366 = .ok (.iload_n 3, 1) := by decide +kernel
theorem dX13_moves_367 : decode cX13_moves 367 = .ok (.iadd, 1) := by decide +kernel
theorem dX13_moves_368 : decode cX13_moves 368 = .ok (.iconst 1, 1) := by decide +kernel
theorem dX13_moves_369 : decode cX13_moves 369 = .ok (.isub, 1) := by decide +kernel
theorem dX13_moves_370 : decode cX13_moves 370 = .ok (.aload_n 0, 1) := by decide +kernel
theorem dX13_moves_371 : decode cX13_moves 371 = .ok (.getfield 13, 3) := by decide +kernel
theorem dX13_moves_374 : decode cX13_moves 374 = .ok (.iconst 1, 1) := by decide +kernel
theorem dX13_moves_375 : decode cX13_moves 375 = .ok (.isub, 1) := by decide +kernel
theorem dX13_moves_376 : decode cX13_moves 376 = .ok (.invokestatic 257, 3) := by decide +kernel
theorem dX13_moves_379 : decode cX13_moves 379 = .ok (.putfield 296, 3) := by decide +kernel
theorem dX13_moves_382 : decode cX13_moves 382 = .ok (.aload_n 0, 1) := by decide +kernel
theorem dX13_moves_383 : decode cX13_moves 383 = .ok (.aload_n 0, 1) := by decide +kernel
theorem dX13_moves_384 : decode cX13_moves 384 = .ok (.aload_n 0, 1) := by decide +kernel
theorem dX13_moves_385 : decode cX13_moves 385 = .ok (.getfield 296, 3) := by decide +kernel
theorem dX13_moves_388 : decode cX13_moves 388 = .ok (.invokevirtual 309, 3) := by decide +kernel
theorem dX13_moves_391 : decode cX13_moves 391 = .ok (.putfield 299, 3) := by decide +kernel
theorem dX13_moves_394 : decode cX13_moves 394 = .ok (.aload_n 0, 1) := by decide +kernel
theorem dX13_moves_395 : decode cX13_moves 395 = .ok (.getfield 213, 3) := by decide +kernel
theorem dX13_moves_398 : decode cX13_moves 398 = .ok (.iload_n 3, 1) := by decide +kernel
theorem dX13_moves_399 : decode cX13_moves 399 = .ok (.iadd, 1) := by decide +kernel
theorem dX13_moves_400 : decode cX13_moves 400 = .ok (.iconst 1, 1) := by decide +kernel
theorem dX13_moves_401 : decode cX13_moves 401 = .ok (.isub, 1) := by decide +kernel
theorem dX13_moves_402 : decode cX13_moves 402 = .ok (.aload_n 0, 1) := by decide +kernel
theorem dX13_moves_403 : decode cX13_moves 403 = .ok (.getfield 13, 3) := by decide +kernel
theorem dX13_moves_406 : decode cX13_moves 406 = .ok (.if_icmp .ge 7, 3) := by decide +kernel
theorem dX13_moves_409 : decode cX13_moves 409 = .ok (.iconst 1, 1) := by decide +kernel
theorem dX13_moves_410 : decode cX13_moves 410 = .ok (.goto 4, 3) := by decide +kernel
theorem dX13_moves_413 : decode cX13_moves 413 = .ok (.iconst 0, 1) := by decide +kernel
theorem dX13_moves_414 : decode cX13_moves 414 = .ok (.ireturn, 1) := by decide +kernel
theorem dX13_moves_415 : decode cX13_moves 415 = .ok (.aload_n 0, 1) := by decide +kernel
theorem dX13_moves_416 : decode cX13_moves 416 = .ok (.iload_n 3, 1) := by decide +kernel
theorem dX13_moves_417 : decode cX13_moves 417 = .ok (.iload 5, 2) := by decide +kernel
theorem dX13_moves_419 : decode cX13_moves 419 = .ok (.invokevirtual 358, 3) := by decide +kernel
theorem dX13_moves_422 : decode cX13_moves 422 = .ok (.ireturn, 1) := by decide +kernel
theorem dX13_moves_423 : decode cX13_moves 423 = .ok (.aload_n 0, 1) := by decide +kernel
theorem dX13_moves_424 : decode cX13_moves 424 = .ok (.iload_n 3, 1) := by decide +kernel
theorem dX13_moves_425 : decode cX13_moves 425 = .ok (.invokevirtual 362, 3) := by decide +kernel
theorem dX13_moves_428 : decode cX13_moves 428 = .ok (.ireturn, 1) := by decide +kernel
theorem dX13_moves_429 : decode cX13_moves 429 = .ok (.aload_n 0, 1) := by decide +kernel
theorem dX13_moves_430 : decode cX13_moves 430 = .ok (.iconst 1, 1) := by decide +kernel
theorem dX13_moves_431 : decode cX13_moves 431 = .ok (.putfield 349, 3) := by decide +kernel
theorem dX13_moves_434 : decode cX13_moves 434 = .ok (.aload_n 0, 1) := by decide +kernel
theorem dX13_moves_435 : decode cX13_moves 435 = .ok (.iload_n 3, 1) := by decide +kernel
theorem dX13_moves_436 : decode cX13_moves 436 = .ok (.invokevirtual 365, 3) := by decide +kernel
theorem dX13_moves_439 : decode cX13_moves 439 = .ok (.ireturn, 1) := by decide +kernel
theorem dX13_moves_440 : decode cX13_moves 440 = .ok (.aload_n 0, 1) := by decide +kernel
theorem dX13_moves_441 : decode cX13_moves 441 = .ok (.iload_n 1, 1) := by decide +kernel
theorem dX13_moves_442 : decode cX13_moves 442 = .ok (.iload_n 2, 1) := by decide +kernel
theorem dX13_moves_443 : decode cX13_moves 443 = .ok (.iload_n 3, 1) := by decide +kernel
theorem dX13_moves_444 : decode cX13_moves 444 = .ok (.invokevirtual 368, 3) := by decide +kernel
theorem dX13_moves_447 : decode cX13_moves 447 = .ok (.ireturn, 1) := by decide +kernel
theorem dX13_moves_448 : decode cX13_moves 448 = .ok (.aload_n 0, 1) := by decide +kernel
theorem dX13_moves_449 : decode cX13_moves 449 = .ok (.aload_n 0, 1) := by decide +kernel
theorem dX13_moves_450 : decode cX13_moves 450 = .ok (.getfield 371, 3) := by decide +kernel
theorem dX13_moves_453 : decode cX13_moves 453 = .ok (.aload_n 0, 1) := by decide +kernel
theorem dX13_moves_454 : decode cX13_moves 454 = .ok (.getfield 374, 3) := by decide +kernel
theorem dX13_moves_457 : decode cX13_moves 457 = .ok (.iload_n 3, 1) := by decide +kernel
theorem dX13_moves_458 : decode cX13_moves 458 = .ok (.invokevirtual 368, 3) := by decide +kernel
theorem dX13_moves_461 : decode cX13_moves 461 = .ok (.ireturn, 1) := by decide +kernel
theorem dX13_moves_462 : decode cX13_moves 462 = .ok (.aload_n 0, 1) := by decide +kernel
theorem dX13_moves_463 : decode cX13_moves 463 = .ok (.aload_n 0, 1) := by decide +kernel
theorem dX13_moves_464 : decode cX13_moves 464 = .ok (.getfield 371, 3) := by decide +kernel
theorem dX13_moves_467 : decode cX13_moves 467 = .ok (.ifCond .ne 7, 3) := by decide +kernel
theorem dX13_moves_470 : decode cX13_moves 470 = .ok (.iconst 0, 1) := by decide +kernel
theorem dX13_moves_471 : decode cX13_moves 471 = .ok (.goto 10, 3) := by decide +kernel
theorem dX13_moves_474 : decode cX13_moves 474 = .ok (.aload_n 0, 1) := by decide +kernel
theorem dX13_moves_475 : decode cX13_moves 475 = .ok (.getfield 371, 3) := by decide +kernel
theorem dX13_moves_478 : decode cX13_moves 478 = .ok (.invokestatic 377, 3) := by decide +kernel
theorem dX13_moves_481 : decode cX13_moves 481 = .ok (.aload_n 0, 1) := by decide +kernel
theorem dX13_moves_482 : decode cX13_moves 482 = .ok (.getfield 374, 3) := by decide +kernel
theorem dX13_moves_485 : decode cX13_moves 485 = .ok (.iload_n 3, 1) := by decide +kernel
theorem dX13_moves_486 : decode cX13_moves 486 = .ok (.invokevirtual 368, 3) := by decide +kernel
theorem dX13_moves_489 : decode cX13_moves 489 = .ok (.ireturn, 1) := by decide +kernel
theorem dX13_moves_490 : decode cX13_moves 490 = .ok (.aload_n 0, 1) := by decide +kernel
theorem dX13_moves_491 : decode cX13_moves 491 = .ok (.iconst 2, 1) := by decide +kernel
theorem dX13_moves_492 : decode cX13_moves 492 = .ok (.putfield 349, 3) := by decide +kernel
theorem dX13_moves_495 : decode cX13_moves 495 = .ok (.aload_n 0, 1) := by decide +kernel
theorem dX13_moves_496 : decode cX13_moves 496 = .ok (.iload 4, 2) := by decide +kernel
theorem dX13_moves_498 : decode cX13_moves 498 = .ok (.ifCond .eq 16, 3) := by decide +kernel
theorem dX13_moves_501 : decode cX13_moves 501 = .ok (.iload_n 3, 1) := by decide +kernel
theorem dX13_moves_502 : decode cX13_moves 502 = .ok (.aload_n 0, 1) := by decide +kernel
theorem dX13_moves_503 : decode cX13_moves 503 = .ok (.getfield 13, 3) := by decide +kernel
theorem dX13_moves_506 : decode cX13_moves 506 = .ok (.invokestatic 257, 3) := by decide +kernel
theorem dX13_moves_509 : decode cX13_moves 509 = .ok (.iconst 1, 1) := by decide +kernel
theorem dX13_moves_510 : decode cX13_moves 510 = .ok (.isub, 1) := by decide +kernel
theorem dX13_moves_511 : decode cX13_moves 511 = .ok (.goto 19, 3) := by decide +kernel
theorem dX13_moves_514 : decode cX13_moves 514 = .ok (.iload_n 1, 1) := by decide +kernel
theorem dX13_moves_515 : decode cX13_moves 515 = .ok (.bipush 71, 2) := by decide +kernel
theorem dX13_moves_517 : decode cX13_moves 517 = .ok (.if_icmp .ne 12, 3) := by decide +kernel
theorem dX13_moves_520 : decode cX13_moves 520 = .ok (.aload_n 0, 1) := by decide +kernel
theorem dX13_moves_521 : decode cX13_moves 521 = .ok (.getfield 13, 3) := by decide +kernel
theorem dX13_moves_524 : decode cX13_moves 524 = .ok (.iconst 1, 1) := by decide +kernel
theorem dX13_moves_525 : decode cX13_moves 525 = .ok (.isub, 1) := by decide +kernel
theorem dX13_moves_526 : decode cX13_moves 526 = .ok (.goto 4, 3) := by decide +kernel
theorem dX13_moves_529 : decode cX13_moves 529 = .ok (.iconst 0, 1) := by decide +kernel
theorem dX13_moves_530 : decode cX13_moves 530 = .ok (.invokevirtual 380, 3) := by decide +kernel
theorem dX13_moves_533 : decode cX13_moves 533 = .ok (.ireturn, 1) := by decide +kernel
theorem dX13_moves_534 : decode cX13_moves 534 = .ok (.aload_n 0, 1) := by decide +kernel
theorem dX13_moves_535 : decode cX13_moves 535 = .ok (.iload_n 3, 1) := by decide +kernel
theorem dX13_moves_536 : decode cX13_moves 536 = .ok (.iload_n 1, 1) := by decide +kernel
theorem dX13_moves_537 : decode cX13_moves 537 = .ok (.bipush 125, 2) := by decide +kernel
theorem dX13_moves_539 : decode cX13_moves 539 = .ok (.if_icmp .ne 7, 3) := by decide +kernel
theorem dX13_moves_542 : decode cX13_moves 542 = .ok (.iconst 1, 1) := by decide +kernel
theorem dX13_moves_543 : decode cX13_moves 543 = .ok (.goto 4, 3) := by decide +kernel
theorem dX13_moves_546 : decode cX13_moves 546 = .ok (.iconst (-1), 1) := by decide +kernel
theorem dX13_moves_547 : decode cX13_moves 547 = .ok (.invokevirtual 383, 3) := by decide +kernel
theorem dX13_moves_550 : decode cX13_moves 550 = .ok (.ireturn, 1) := by decide +kernel
theorem dX13_moves_551 : decode cX13_moves 551 = .ok (.aload_n 0, 1) := by decide +kernel
theorem dX13_moves_552 : decode cX13_moves 552 = .ok (.iconst 1, 1) := by decide +kernel
theorem dX13_moves_553 : decode cX13_moves 553 = .ok (.putfield 349, 3) := by decide +kernel
theorem dX13_moves_556 : decode cX13_moves 556 = .ok (.aload_n 0, 1) := by decide +kernel
theorem dX13_moves_557 : decode cX13_moves 557 = .ok (.invokevirtual 386, 3) := by decide +kernel
theorem dX13_moves_560 : decode cX13_moves 560 = .ok (.ireturn, 1) := by decide +kernel
theorem dX13_moves_561 : decode cX13_moves 561 = .ok (.aload_n 0, 1) := by decide +kernel
theorem dX13_moves_562 : decode cX13_moves 562 = .ok (.iload_n 1, 1) := by decide +kernel
theorem dX13_moves_563 : decode cX13_moves 563 = .ok (.bipush 78, 2) := by decide +kernel
theorem dX13_moves_565 : decode cX13_moves 565 = .ok (.if_icmp .ne 7, 3) := by decide +kernel
theorem dX13_moves_568 : decode cX13_moves 568 = .ok (.iconst (-1), 1) := by decide +kernel
theorem dX13_moves_569 : decode cX13_moves 569 = .ok (.goto 4, 3) := by decide +kernel
theorem dX13_moves_572 : decode cX13_moves 572 = .ok (.iconst 1, 1) := by decide +kernel
theorem dX13_moves_573 : decode cX13_moves 573 = .ok (.iload_n 3, 1) := by decide +kernel
theorem dX13_moves_574 : decode cX13_moves 574 = .ok (.invokevirtual 389, 3) := by decide +kernel
theorem dX13_moves_577 : decode cX13_moves 577 = .ok (.ireturn, 1) := by decide +kernel
theorem dX13_moves_578 : decode cX13_moves 578 = .ok (.aload_n 0, 1) := by decide +kernel
theorem dX13_moves_579 : decode cX13_moves 579 = .ok (.iconst 2, 1) := by decide +kernel
theorem dX13_moves_580 : decode cX13_moves 580 = .ok (.putfield 349, 3) := by decide +kernel
theorem dX13_moves_583 : decode cX13_moves 583 = .ok (.aload_n 0, 1) := by decide +kernel
theorem dX13_moves_584 : decode cX13_moves 584 = .ok (.iload_n 2, 1) := by decide +kernel
theorem dX13_moves_585 : decode cX13_moves 585 = .ok (.iconst 0, 1) := by decide +kernel
theorem dX13_moves_586 : decode cX13_moves 586 = .ok (.invokevirtual 392, 3) := by decide +kernel
theorem dX13_moves_589 : decode cX13_moves 589 = .ok (.ireturn, 1) := by decide +kernel
theorem dX13_moves_590 : decode cX13_moves 590 = .ok (.aload_n 0, 1) := by decide +kernel
theorem dX13_moves_591 : decode cX13_moves 591 = .ok (.iload_n 2, 1) := by decide +kernel
theorem dX13_moves_592 : decode cX13_moves 592 = .ok (.iconst 1, 1) := by decide +kernel
theorem dX13_moves_593 : decode cX13_moves 593 = .ok (.invokevirtual 392, 3) := by decide +kernel
theorem dX13_moves_596 : decode cX13_moves 596 = .ok (.ireturn, 1) := by decide +kernel
theorem dX13_spans_0 : decode cX13_spans 0 = .ok (.aload_n 0, 1) := by decide +kernel
theorem dX13_spans_1 : decode cX13_spans 1 = .ok (.iload_n 1, 1) := by decide +kernel
theorem dX13_spans_2 : decode cX13_spans 2 = .ok (.putfield 395, 3) := by decide +kernel
theorem dX13_spans_5 : decode cX13_spans 5 = .ok (.aload_n 0, 1) := by decide +kernel
theorem dX13_spans_6 : decode cX13_spans 6 = .ok (.iload_n 2, 1) := by decide +kernel
theorem dX13_spans_7 : decode cX13_spans 7 = .ok (.putfield 398, 3) := by decide +kernel
theorem dX13_spans_10 : decode cX13_spans 10 = .ok (.aload_n 0, 1) := by decide +kernel
theorem dX13_spans_11 : decode cX13_spans 11 = .ok (.iload_n 3, 1) := by decide +kernel
theorem dX13_spans_12 : decode cX13_spans 12 = .ok (.putfield 401, 3) := by decide +kernel
theorem dX13_spans_15 : decode cX13_spans 15 = .ok (.aload_n 0, 1) := by decide +kernel
theorem dX13_spans_16 : decode cX13_spans 16 = .ok (.iload 4, 2) := by decide +kernel
theorem dX13_spans_18 : decode cX13_spans 18 = .ok (.putfield 404, 3) := by decide +kernel
theorem dX13_spans_21 : decode cX13_spans 21 = .ok (.aload_n 0, 1) := by decide +kernel
theorem dX13_spans_22 : decode cX13_spans 22 = .ok (.iload 5, 2) := by decide +kernel
theorem dX13_spans_24 : decode cX13_spans 24 = .ok (.putfield 407, 3) := by decide +kernel
theorem dX13_spans_27 : decode cX13_spans 27 = .ok (.return_, 1) := by decide +kernel
theorem dX13_spansLines_0 : decode cX13_spansLines 0 = .ok (.aload_n 0, 1) := by decide +kernel
theorem dX13_spansLines_1 : decode cX13_spansLines 1 = .ok (.iconst 2, 1) := by decide +kernel
theorem dX13_spansLines_2 : decode cX13_spansLines 2 = .ok (.iload_n 1, 1) := by decide +kernel
theorem dX13_spansLines_3 : decode cX13_spansLines 3 = .ok (.iconst 0, 1) := by decide +kernel
theorem dX13_spansLines_4 : decode cX13_spansLines 4 = .ok (.iload_n 2, 1) := by decide +kernel
theorem dX13_spansLines_5 : decode cX13_spansLines 5 = .ok (.iconst 0, 1) := by decide +kernel
theorem dX13_spansLines_6 : decode cX13_spansLines 6 = .ok (.invokevirtual 410, 3) := by decide +kernel
theorem dX13_spansLines_9 : decode cX13_spansLines 9 = .ok (.return_, 1) := by decide +kernel
theorem dX13_isSomething_0 : decode cX13_isSomething 0 = .ok (.aload_n 0, 1) := by decide +kernel
theorem dX13_isSomething_1 : decode cX13_isSomething 1 = .ok (.getfield 395, 3) := by decide +kernel
theorem dX13_isSomething_4 : decode cX13_isSomething 4 = .ok (.iconst 1, 1) := by decide +kernel
theorem dX13_isSomething_5 : decode cX13_isSomething 5 = .ok (.if_icmp .ne 25, 3) := by decide +kernel
theorem dX13_isSomething_8 : decode cX13_isSomething 8 = .ok (.aload_n 0, 1) := by decide +kernel
theorem dX13_isSomething_9 : decode cX13_isSomething 9 = .ok (.getfield 398, 3) := by decide +kernel
theorem dX13_isSomething_12 : decode cX13_isSomething 12 = .ok (.aload_n 0, 1) := by decide +kernel
theorem dX13_isSomething_13 : decode cX13_isSomething 13 = .ok (.getfield 404, 3) := by decide +kernel
theorem dX13_isSomething_16 : decode cX13_isSomething 16 = .ok (.if_icmp .ne 14, 3) := by decide +kernel
theorem dX13_isSomething_19 : decode cX13_isSomething 19 = .ok (.aload_n 0, 1) := by decide +kernel
theorem dX13_isSomething_20 : decode cX13_isSomething 20 = .ok (.getfield 401, 3) := by decide +kernel
theorem dX13_isSomething_23 : decode cX13_isSomething 23 = .ok (.aload_n 0, 1) := by decide +kernel
theorem dX13_isSomething_24 : decode cX13_isSomething 24 = .ok (.getfield 407, 3) := by decide +kernel
theorem dX13_isSomething_27 : decode cX13_isSomething 27 = .ok (.if_icmp .eq 7, 3) := by decide +kernel
theorem dX13_isSomething_30 : decode cX13_isSomething 30 = .ok (.iconst 1, 1) := by decide +kernel
theorem dX13_isSomething_31 : decode cX13_isSomething 31 = .ok (.goto 4, 3) := by decide +kernel
theorem dX13_isSomething_34 : decode cX13_isSomething 34 = .ok (.iconst 0, 1) := by decide +kernel
theorem dX13_isSomething_35 : decode cX13_isSomething 35 = .ok (.ireturn, 1) := by decide +kernel
theorem dX13_spansMotion_0 : decode cX13_spansMotion 0 = .ok (.aload_n 0, 1) := by decide +kernel
theorem dX13_spansMotion_1 : decode cX13_spansMotion 1 = .ok (.getfield 296, 3) := by decide +kernel
theorem dX13_spansMotion_4 : decode cX13_spansMotion 4 = .ok (.aload_n 0, 1) := by decide +kernel
theorem dX13_spansMotion_5 : decode cX13_spansMotion 5 = .ok (.getfield 213, 3) := by decide +kernel
theorem dX13_spansMotion_8 : decode cX13_spansMotion 8 = .ok (.if_icmp .lt 25, 3) := by decide +kernel
theorem dX13_spansMotion_11 : decode cX13_spansMotion 11 = .ok (.aload_n 0, 1) := by decide +kernel
theorem dX13_spansMotion_12 : decode cX13_spansMotion 12 = .ok (.getfield 296, 3) := by decide +kernel
theorem dX13_spansMotion_15 : decode cX13_spansMotion 15 = .ok (.aload_n 0, 1) := by decide +kernel
theorem dX13_spansMotion_16 : decode cX13_spansMotion 16 = .ok (.getfield 213, 3) := by decide +kernel
theorem dX13_spansMotion_19 : decode cX13_spansMotion 19 = .ok (.if_icmp .ne 18, 3) := by decide +kernel
theorem dX13_spansMotion_22 : decode cX13_spansMotion 22 = .ok (.aload_n 0, 1) := by decide +kernel
theorem dX13_spansMotion_23 : decode cX13_spansMotion 23 = .ok (.getfield 299, 3) := by decide +kernel
theorem dX13_spansMotion_26 : decode cX13_spansMotion 26 = .ok (.aload_n 0, 1) := by decide +kernel
theorem dX13_spansMotion_27 : decode cX13_spansMotion 27 = .ok (.getfield 216, 3) := by decide +kernel
theorem dX13_spansMotion_30 : decode cX13_spansMotion 30 = .ok (.if_icmp .ge 7, 3) := by decide +kernel
theorem dX13_spansMotion_33 : decode cX13_spansMotion 33 = .ok (.iconst 1, 1) := by decide +kernel
theorem dX13_spansMotion_34 : decode cX13_spansMotion 34 = .ok (.goto 4, 3) := by decide +kernel
theorem dX13_spansMotion_37 : decode cX13_spansMotion 37 = .ok (.iconst 0, 1) := by decide +kernel
theorem dX13_spansMotion_38 : decode cX13_spansMotion 38 = .ok (.istore_n 2, 1) := by decide +kernel
theorem dX13_spansMotion_39 : decode cX13_spansMotion 39 = .ok (.iload_n 2, 1) := by decide +kernel
theorem dX13_spansMotion_40 : decode cX13_spansMotion 40 = .ok (.ifCond .eq 10, 3) := by decide +kernel
theorem dX13_spansMotion_43 : decode cX13_spansMotion 43 = .ok (.aload_n 0, 1) := by decide +kernel
theorem dX13_spansMotion_44 : decode cX13_spansMotion 44 = .ok (.getfield 296, 3) := by decide +kernel
theorem dX13_spansMotion_47 : decode cX13_spansMotion 47 = .ok (.goto 7, 3) := by decide +kernel
theorem dX13_spansMotion_50 : decode cX13_spansMotion 50 = .ok (.aload_n 0, 1) := by decide +kernel
theorem dX13_spansMotion_51 : decode cX13_spansMotion 51 = .ok (.getfield 213, 3) := by decide +kernel
theorem dX13_spansMotion_54 : decode cX13_spansMotion 54 = .ok (.istore_n 3, 1) := by decide +kernel
theorem dX13_spansMotion_55 : decode cX13_spansMotion 55 = .ok (.iload_n 2, 1) := by decide +kernel
theorem dX13_spansMotion_56 : decode cX13_spansMotion 56 = .ok (.ifCond .eq 10, 3) := by decide +kernel
theorem dX13_spansMotion_59 : decode cX13_spansMotion 59 = .ok (.aload_n 0, 1) := by decide +kernel
theorem dX13_spansMotion_60 : decode cX13_spansMotion 60 = .ok (.getfield 299, 3) := by decide +kernel
theorem dX13_spansMotion_63 : decode cX13_spansMotion 63 = .ok (.goto 7, 3) := by decide +kernel
theorem dX13_spansMotion_66 : decode cX13_spansMotion 66 = .ok (.aload_n 0, 1) := by decide +kernel
theorem dX13_spansMotion_67 : decode cX13_spansMotion 67 = .ok (.getfield 216, 3) := by decide +kernel
theorem dX13_spansMotion_70 : decode cX13_spansMotion 70 = .ok (.istore 4, 2) := by decide +kernel
theorem dX13_spansMotion_72 : decode cX13_spansMotion 72 = .ok (.iload_n 2, 1) := by decide +kernel
theorem dX13_spansMotion_73 : decode cX13_spansMotion 73 = .ok (.ifCond .eq 10, 3) := by decide +kernel
theorem dX13_spansMotion_76 : decode cX13_spansMotion 76 = .ok (.aload_n 0, 1) := by decide +kernel
theorem dX13_spansMotion_77 : decode cX13_spansMotion 77 = .ok (.getfield 213, 3) := by decide +kernel
theorem dX13_spansMotion_80 : decode cX13_spansMotion 80 = .ok (.goto 7, 3) := by decide +kernel
theorem dX13_spansMotion_83 : decode cX13_spansMotion 83 = .ok (.aload_n 0, 1) := by decide +kernel
theorem dX13_spansMotion_84 : decode cX13_spansMotion 84 = .ok (.getfield 296, 3) := by decide +kernel
theorem dX13_spansMotion_87 : decode cX13_spansMotion 87 = .ok (.istore 5, 2) := by decide +kernel
theorem dX13_spansMotion_89 : decode cX13_spansMotion 89 = .ok (.iload_n 2, 1) := by decide +kernel
theorem dX13_spansMotion_90 : decode cX13_spansMotion 90 = .ok (.ifCond .eq 10, 3) := by decide +kernel
theorem dX13_spansMotion_93 : decode cX13_spansMotion 93 = .ok (.aload_n 0, 1) := by decide +kernel
theorem dX13_spansMotion_94 : decode cX13_spansMotion 94 = .ok (.getfield 216, 3) := by decide +kernel
theorem dX13_spansMotion_97 : decode cX13_spansMotion 97 = .ok (.goto 7, 3) := by decide +kernel
theorem dX13_spansMotion_100 : decode cX13_spansMotion 100 = .ok (.aload_n 0, 1) := by decide +kernel
theorem dX13_spansMotion_101 : decode cX13_spansMotion 101 = .ok (.getfield 299, 3) := by decide +kernel
theorem dX13_spansMotion_104 : decode cX13_spansMotion 104 = .ok (.istore 6, 2) := by decide +kernel
theorem dX13_spansMotion_106 : decode cX13_spansMotion 106 = .ok (.aload_n 0, 1) := by decide +kernel
theorem dX13_spansMotion_107 : decode cX13_spansMotion 107 = .ok (.getfield 349, 3) := by decide +kernel
theorem dX13_spansMotion_110 : decode cX13_spansMotion 110 = .ok (.iconst 2, 1) := by decide +kernel
theorem dX13_spansMotion_111 : decode cX13_spansMotion 111 = .ok (.if_icmp .ne 58, 3) := by decide +kernel
theorem dX13_spansMotion_114 : decode cX13_spansMotion 114 = .ok (.iload_n 1, 1) := by decide +kernel
theorem dX13_spansMotion_115 : decode cX13_spansMotion 115 = .ok (.bipush 106, 2) := by decide +kernel
theorem dX13_spansMotion_117 : decode cX13_spansMotion 117 = .ok (.if_icmp .eq 9, 3) := by decide +kernel
theorem dX13_spansMotion_120 : decode cX13_spansMotion 120 = .ok (.iload_n 1, 1) := by decide +kernel
theorem dX13_spansMotion_121 : decode cX13_spansMotion 121 = .ok (.bipush 107, 2) := by decide +kernel
theorem dX13_spansMotion_123 : decode cX13_spansMotion 123 = .ok (.if_icmp .ne 7, 3) := by decide +kernel
theorem dX13_spansMotion_126 : decode cX13_spansMotion 126 = .ok (.iconst 1, 1) := by decide +kernel
theorem dX13_spansMotion_127 : decode cX13_spansMotion 127 = .ok (.goto 4, 3) := by decide +kernel
theorem dX13_spansMotion_130 : decode cX13_spansMotion 130 = .ok (.iconst 0, 1) := by decide +kernel
theorem dX13_spansMotion_131 : decode cX13_spansMotion 131 = .ok (.istore 7, 2) := by decide +kernel
theorem dX13_spansMotion_133 : decode cX13_spansMotion 133 = .ok (.aload_n 0, 1) := by decide +kernel
theorem dX13_spansMotion_134 : decode cX13_spansMotion 134 = .ok (.iload 7, 2) := by decide +kernel
theorem dX13_spansMotion_136 : decode cX13_spansMotion 136 = .ok (.ifCond .eq 11, 3) := by decide +kernel
theorem dX13_spansMotion_139 : decode cX13_spansMotion 139 = .ok (.aload_n 0, 1) := by decide +kernel
theorem dX13_spansMotion_140 : decode cX13_spansMotion 140 = .ok (.iload_n 3, 1) := by decide +kernel
theorem dX13_spansMotion_141 : decode cX13_spansMotion 141 = .ok (.invokevirtual 346, 3) := by decide +kernel
theorem dX13_spansMotion_144 : decode cX13_spansMotion 144 = .ok (.goto 4, 3) := by decide +kernel
theorem dX13_spansMotion_147 : decode cX13_spansMotion 147 = .ok (.iload_n 3, 1) := by decide +kernel
theorem dX13_spansMotion_148 : decode cX13_spansMotion 148 = .ok (.iload 7, 2) := by decide +kernel
theorem dX13_spansMotion_150 : decode cX13_spansMotion 150 = .ok (.ifCond .eq 12, 3) := by decide +kernel
theorem dX13_spansMotion_153 : decode cX13_spansMotion 153 = .ok (.aload_n 0, 1) := by decide +kernel
theorem dX13_spansMotion_154 : decode cX13_spansMotion 154 = .ok (.iload 5, 2) := by decide +kernel
theorem dX13_spansMotion_156 : decode cX13_spansMotion 156 = .ok (.invokevirtual 343, 3) := by decide +kernel
theorem dX13_spansMotion_159 : decode cX13_spansMotion 159 = .ok (.goto 5, 3) := by decide +kernel
theorem dX13_spansMotion_162 : decode cX13_spansMotion 162 = .ok (.iload 5, 2) := by decide +kernel
theorem dX13_spansMotion_164 : decode cX13_spansMotion 164 = .ok (.invokevirtual 414, 3) := by decide +kernel
theorem dX13_spansMotion_167 : decode cX13_spansMotion 167 = .ok (.iconst 1, 1) := by decide +kernel
theorem dX13_spansMotion_168 : decode cX13_spansMotion 168 = .ok (.ireturn, 1) := by decide +kernel
theorem dX13_spansMotion_169 : decode cX13_spansMotion 169 = .ok (.aload_n 0, 1) := by decide +kernel
theorem dX13_spansMotion_170 : decode cX13_spansMotion 170 = .ok (.getfield 349, 3) := by decide +kernel
theorem dX13_spansMotion_173 : decode cX13_spansMotion 173 = .ok (.iconst 1, 1) := by decide +kernel
theorem dX13_spansMotion_174 : decode cX13_spansMotion 174 = .ok (.if_icmp .ne 26, 3) := by decide +kernel
theorem dX13_spansMotion_177 : decode cX13_spansMotion 177 = .ok (.iload 6, 2) := by decide +kernel
theorem dX13_spansMotion_179 : decode cX13_spansMotion 179 = .ok (.aload_n 0, 1) := by decide +kernel
theorem dX13_spansMotion_180 : decode cX13_spansMotion 180 = .ok (.getfield 17, 3) := by decide +kernel
theorem dX13_spansMotion_183 : decode cX13_spansMotion 183 = .ok (.iload 5, 2) := by decide +kernel
theorem dX13_spansMotion_185 : decode cX13_spansMotion 185 = .ok (.iaload, 1) := by decide +kernel
theorem dX13_spansMotion_186 : decode cX13_spansMotion 186 = .ok (.ifCond .le 7, 3) := by decide +kernel
theorem dX13_spansMotion_189 : decode cX13_spansMotion 189 = .ok (.iconst 1, 1) := by decide +kernel
theorem dX13_spansMotion_190 : decode cX13_spansMotion 190 = .ok (.goto 4, 3) := by decide +kernel
theorem dX13_spansMotion_193 : decode cX13_spansMotion 193 = .ok (.iconst 0, 1) := by decide +kernel
theorem dX13_spansMotion_194 : decode cX13_spansMotion 194 = .ok (.iadd, 1) := by decide +kernel
theorem dX13_spansMotion_195 : decode cX13_spansMotion 195 = .ok (.istore 6, 2) := by decide +kernel
theorem dX13_spansMotion_197 : decode cX13_spansMotion 197 = .ok (.goto 26, 3) := by decide +kernel
theorem dX13_spansMotion_200 : decode cX13_spansMotion 200 = .ok (.iload 6, 2) := by decide +kernel
theorem dX13_spansMotion_202 : decode cX13_spansMotion 202 = .ok (.ifCond .ne 21, 3) := by decide +kernel
theorem dX13_spansMotion_205 : decode cX13_spansMotion 205 = .ok (.iload 5, 2) := by decide +kernel
theorem dX13_spansMotion_207 : decode cX13_spansMotion 207 = .ok (.iload_n 3, 1) := by decide +kernel
theorem dX13_spansMotion_208 : decode cX13_spansMotion 208 = .ok (.if_icmp .le 15, 3) := by decide +kernel
theorem dX13_spansMotion_211 : decode cX13_spansMotion 211 = .ok (.iinc 5 (-1), 3) := by decide +kernel
theorem dX13_spansMotion_214 : decode cX13_spansMotion 214 = .ok (.aload_n 0, 1) := by decide +kernel
theorem dX13_spansMotion_215 : decode cX13_spansMotion 215 = .ok (.getfield 17, 3) := by decide +kernel
theorem dX13_spansMotion_218 : decode cX13_spansMotion 218 = .ok (.iload 5, 2) := by decide +kernel
theorem dX13_spansMotion_220 : decode cX13_spansMotion 220 = .ok (.iaload, 1) := by decide +kernel
theorem dX13_spansMotion_221 : decode cX13_spansMotion 221 = .ok (.istore 6, 2) := by decide +kernel
theorem dX13_spansMotion_223 : decode cX13_spansMotion 223 = .ok (.aload_n 0, 1) := by decide +kernel
theorem dX13_spansMotion_224 : decode cX13_spansMotion 224 = .ok (.iconst 1, 1) := by decide +kernel
theorem dX13_spansMotion_225 : decode cX13_spansMotion 225 = .ok (.iload_n 3, 1) := by decide +kernel
theorem dX13_spansMotion_226 : decode cX13_spansMotion 226 = .ok (.iload 4, 2) := by decide +kernel
theorem dX13_spansMotion_228 : decode cX13_spansMotion 228 = .ok (.iload 5, 2) := by decide +kernel
theorem dX13_spansMotion_230 : decode cX13_spansMotion 230 = .ok (.iload 6, 2) := by decide +kernel
theorem dX13_spansMotion_232 : decode cX13_spansMotion 232 = .ok (.invokevirtual 410, 3) := by decide +kernel
theorem dX13_spansMotion_235 : decode cX13_spansMotion 235 = .ok (.aload_n 0, 1) := by decide +kernel
theorem dX13_spansMotion_236 : decode cX13_spansMotion 236 = .ok (.invokevirtual 417, 3) := by decide +kernel
theorem dX13_spansMotion_239 : decode cX13_spansMotion 239 = .ok (.ireturn, 1) := by decide +kernel
theorem dX13_runEnd_0 : decode cX13_runEnd 0 = .ok (.iload_n 1, 1) := by decide +kernel
theorem dX13_runEnd_1 : decode cX13_runEnd 1 = .ok (.istore_n 3, 1) := by decide +kernel
theorem dX13_runEnd_2 : decode cX13_runEnd 2 = .ok (.aload_n 0, 1) := by decide +kernel
theorem dX13_runEnd_3 : decode cX13_runEnd 3 = .ok (.aload_n 0, 1) := by decide +kernel
theorem dX13_runEnd_4 : decode cX13_runEnd 4 = .ok (.getfield 213, 3) := by decide +kernel
theorem dX13_runEnd_7 : decode cX13_runEnd 7 = .ok (.iload_n 3, 1) := by decide +kernel
theorem dX13_runEnd_8 : decode cX13_runEnd 8 = .ok (.iload_n 2, 1) := by decide +kernel
theorem dX13_runEnd_9 : decode cX13_runEnd 9 = .ok (.iadd, 1) := by decide +kernel
theorem dX13_runEnd_10 : decode cX13_runEnd 10 = .ok (.invokevirtual 293, 3) := by decide +kernel
theorem dX13_runEnd_13 : decode cX13_runEnd 13 = .ok (.aload_n 0, 1) := by decide +kernel
theorem dX13_runEnd_14 : decode cX13_runEnd 14 = .ok (.aload_n 0, 1) := by decide +kernel
theorem dX13_runEnd_15 : decode cX13_runEnd 15 = .ok (.getfield 213, 3) := by decide +kernel
theorem dX13_runEnd_18 : decode cX13_runEnd 18 = .ok (.iload_n 1, 1) := by decide +kernel
theorem dX13_runEnd_19 : decode cX13_runEnd 19 = .ok (.invokevirtual 293, 3) := by decide +kernel
theorem dX13_runEnd_22 : decode cX13_runEnd 22 = .ok (.if_icmp .ne 10, 3) := by decide +kernel
theorem dX13_runEnd_25 : decode cX13_runEnd 25 = .ok (.iload_n 3, 1) := by decide +kernel
theorem dX13_runEnd_26 : decode cX13_runEnd 26 = .ok (.iload_n 2, 1) := by decide +kernel
theorem dX13_runEnd_27 : decode cX13_runEnd 27 = .ok (.iadd, 1) := by decide +kernel
theorem dX13_runEnd_28 : decode cX13_runEnd 28 = .ok (.istore_n 3, 1) := by decide +kernel
theorem dX13_runEnd_29 : decode cX13_runEnd 29 = .ok (.goto (-27), 3) := by decide +kernel
theorem dX13_runEnd_32 : decode cX13_runEnd 32 = .ok (.iload_n 3, 1) := by decide +kernel
theorem dX13_runEnd_33 : decode cX13_runEnd 33 = .ok (.ireturn, 1) := by decide +kernel
theorem dX13_spansWord_0 : decode cX13_spansWord 0 = .ok (.aload_n 0, 1) := by decide +kernel
theorem dX13_spansWord_1 : decode cX13_spansWord 1 = .ok (.getfield 17, 3) := by decide +kernel
theorem dX13_spansWord_4 : decode cX13_spansWord 4 = .ok (.aload_n 0, 1) := by decide +kernel
theorem dX13_spansWord_5 : decode cX13_spansWord 5 = .ok (.getfield 213, 3) := by decide +kernel
theorem dX13_spansWord_8 : decode cX13_spansWord 8 = .ok (.iaload, 1) := by decide +kernel
theorem dX13_spansWord_9 : decode cX13_spansWord 9 = .ok (.ifCond .ne 5, 3) := by decide +kernel
theorem dX13_spansWord_12 : decode cX13_spansWord 12 = .ok (.iconst 0, 1) := by decide +kernel
theorem dX13_spansWord_13 : decode cX13_spansWord 13 = .ok (.ireturn, 1) := by decide +kernel
theorem dX13_spansWord_14 : decode cX13_spansWord 14 = .ok (.aload_n 0, 1) := by decide +kernel
theorem dX13_spansWord_15 : decode cX13_spansWord 15 = .ok (.aload_n 0, 1) := by decide +kernel
theorem dX13_spansWord_16 : decode cX13_spansWord 16 = .ok (.getfield 216, 3) := by decide +kernel
theorem dX13_spansWord_19 : decode cX13_spansWord 19 = .ok (.iconst (-1), 1) := by decide +kernel
theorem dX13_spansWord_20 : decode cX13_spansWord 20 = .ok (.invokevirtual 420, 3) := by decide +kernel
theorem dX13_spansWord_23 : decode cX13_spansWord 23 = .ok (.istore_n 3, 1) := by decide +kernel
theorem dX13_spansWord_24 : decode cX13_spansWord 24 = .ok (.aload_n 0, 1) := by decide +kernel
theorem dX13_spansWord_25 : decode cX13_spansWord 25 = .ok (.aload_n 0, 1) := by decide +kernel
theorem dX13_spansWord_26 : decode cX13_spansWord 26 = .ok (.getfield 216, 3) := by decide +kernel
theorem dX13_spansWord_29 : decode cX13_spansWord 29 = .ok (.iconst 1, 1) := by decide +kernel
theorem dX13_spansWord_30 : decode cX13_spansWord 30 = .ok (.invokevirtual 420, 3) := by decide +kernel
theorem dX13_spansWord_33 : decode cX13_spansWord 33 = .ok (.istore 4, 2) := by decide +kernel
theorem dX13_spansWord_35 : decode cX13_spansWord 35 = .ok (.iconst 1, 1) := by decide +kernel
theorem dX13_spansWord_36 : decode cX13_spansWord 36 = .ok (.istore 5, 2) := by decide +kernel
theorem dX13_spansWord_38 : decode cX13_spansWord 38 = .ok (.iload 5, 2) := by decide +kernel
theorem dX13_spansWord_40 : decode cX13_spansWord 40 = .ok (.iload_n 2, 1) := by decide +kernel
theorem dX13_spansWord_41 : decode cX13_spansWord 41 = .ok (.if_icmp .ge 38, 3) := by decide +kernel
theorem dX13_spansWord_44 : decode cX13_spansWord 44 = .ok (.iload 4, 2) := by decide +kernel
theorem dX13_spansWord_46 : decode cX13_spansWord 46 = .ok (.iconst 1, 1) := by decide +kernel
theorem dX13_spansWord_47 : decode cX13_spansWord 47 = .ok (.iadd, 1) := by decide +kernel
theorem dX13_spansWord_48 : decode cX13_spansWord 48 = .ok (.aload_n 0, 1) := by decide +kernel
theorem dX13_spansWord_49 : decode cX13_spansWord 49 = .ok (.getfield 17, 3) := by decide +kernel
theorem dX13_spansWord_52 : decode cX13_spansWord 52 = .ok (.aload_n 0, 1) := by decide +kernel
theorem dX13_spansWord_53 : decode cX13_spansWord 53 = .ok (.getfield 213, 3) := by decide +kernel
theorem dX13_spansWord_56 : decode cX13_spansWord 56 = .ok (.iaload, 1) := by decide +kernel
theorem dX13_spansWord_57 : decode cX13_spansWord 57 = .ok (.if_icmp .lt 5, 3) := by decide +kernel
theorem dX13_spansWord_60 : decode cX13_spansWord 60 = .ok (.iconst 0, 1) := by decide +kernel
theorem dX13_spansWord_61 : decode cX13_spansWord 61 = .ok (.ireturn, 1) := by decide +kernel
theorem dX13_spansWord_62 : decode cX13_spansWord 62 = .ok (.aload_n 0, 1) := by decide +kernel
theorem dX13_spansWord_63 : decode cX13_spansWord 63 = .ok (.iload 4, 2) := by decide +kernel
theorem dX13_spansWord_65 : decode cX13_spansWord 65 = .ok (.iconst 1, 1) := by decide +kernel
theorem dX13_spansWord_66 : decode cX13_spansWord 66 = .ok (.iadd, 1) := by decide +kernel
theorem dX13_spansWord_67 : decode cX13_spansWord 67 = .ok (.iconst 1, 1) := by decide +kernel
theorem dX13_spansWord_68 : decode cX13_spansWord 68 = .ok (.invokevirtual 420, 3) := by decide +kernel
theorem dX13_spansWord_71 : decode cX13_spansWord 71 = .ok (.istore 4, 2) := by decide +kernel
theorem dX13_spansWord_73 : decode cX13_spansWord 73 = .ok (.iinc 5 1, 3) := by decide +kernel
theorem dX13_spansWord_76 : decode cX13_spansWord 76 = .ok (.goto (-38), 3) := by decide +kernel
theorem dX13_spansWord_79 : decode cX13_spansWord 79 = .ok (.aload_n 0, 1) := by decide +kernel
theorem dX13_spansWord_80 : decode cX13_spansWord 80 = .ok (.aload_n 0, 1) := by decide +kernel
theorem dX13_spansWord_81 : decode cX13_spansWord 81 = .ok (.getfield 213, 3) := by decide +kernel
theorem dX13_spansWord_84 : decode cX13_spansWord 84 = .ok (.iload 4, 2) := by decide +kernel
theorem dX13_spansWord_86 : decode cX13_spansWord 86 = .ok (.iconst 1, 1) := by decide +kernel
theorem dX13_spansWord_87 : decode cX13_spansWord 87 = .ok (.iadd, 1) := by decide +kernel
theorem dX13_spansWord_88 : decode cX13_spansWord 88 = .ok (.invokevirtual 293, 3) := by decide +kernel
theorem dX13_spansWord_91 : decode cX13_spansWord 91 = .ok (.ifCond .ne 7, 3) := by decide +kernel
theorem dX13_spansWord_94 : decode cX13_spansWord 94 = .ok (.iconst 1, 1) := by decide +kernel
theorem dX13_spansWord_95 : decode cX13_spansWord 95 = .ok (.goto 4, 3) := by decide +kernel
theorem dX13_spansWord_98 : decode cX13_spansWord 98 = .ok (.iconst 0, 1) := by decide +kernel
theorem dX13_spansWord_99 : decode cX13_spansWord 99 = .ok (.istore 5, 2) := by decide +kernel
theorem dX13_spansWord_101 : decode cX13_spansWord 101 = .ok (.aload_n 0, 1) := by decide +kernel
theorem dX13_spansWord_102 : decode cX13_spansWord 102 = .ok (.aload_n 0, 1) := by decide +kernel
theorem dX13_spansWord_103 : decode cX13_spansWord 103 = .ok (.getfield 213, 3) := by decide +kernel
theorem dX13_spansWord_106 : decode cX13_spansWord 106 = .ok (.iload_n 3, 1) := by decide +kernel
theorem dX13_spansWord_107 : decode cX13_spansWord 107 = .ok (.iconst 1, 1) := by decide +kernel
theorem dX13_spansWord_108 : decode cX13_spansWord 108 = .ok (.isub, 1) := by decide +kernel
theorem dX13_spansWord_109 : decode cX13_spansWord 109 = .ok (.invokevirtual 293, 3) := by decide +kernel
theorem dX13_spansWord_112 : decode cX13_spansWord 112 = .ok (.ifCond .ne 7, 3) := by decide +kernel
theorem dX13_spansWord_115 : decode cX13_spansWord 115 = .ok (.iconst 1, 1) := by decide +kernel
theorem dX13_spansWord_116 : decode cX13_spansWord 116 = .ok (.goto 4, 3) := by decide +kernel
theorem dX13_spansWord_119 : decode cX13_spansWord 119 = .ok (.iconst 0, 1) := by decide +kernel
theorem dX13_spansWord_120 : decode cX13_spansWord 120 = .ok (.istore 6, 2) := by decide +kernel
theorem dX13_spansWord_122 : decode cX13_spansWord 122 = .ok (.iload_n 1, 1) := by decide +kernel
theorem dX13_spansWord_123 : decode cX13_spansWord 123 = .ok (.ifCond .eq 22, 3) := by decide +kernel
theorem dX13_spansWord_126 : decode cX13_spansWord 126 = .ok (.iload 5, 2) := by decide +kernel
theorem dX13_spansWord_128 : decode cX13_spansWord 128 = .ok (.ifCond .eq 17, 3) := by decide +kernel
theorem dX13_spansWord_131 : decode cX13_spansWord 131 = .ok (.aload_n 0, 1) := by decide +kernel
theorem dX13_spansWord_132 : decode cX13_spansWord 132 = .ok (.iload 4, 2) := by decide +kernel
theorem dX13_spansWord_134 : decode cX13_spansWord 134 = .ok (.iconst 1, 1) := by decide +kernel
theorem dX13_spansWord_135 : decode cX13_spansWord 135 = .ok (.iadd, 1) := by decide +kernel
theorem dX13_spansWord_136 : decode cX13_spansWord 136 = .ok (.iconst 1, 1) := by decide +kernel
theorem dX13_spansWord_137 : decode cX13_spansWord 137 = .ok (.invokevirtual 420, 3) := by decide +kernel
theorem dX13_spansWord_140 : decode cX13_spansWord 140 = .ok (.istore 4, 2) := by decide +kernel
theorem dX13_spansWord_142 : decode cX13_spansWord 142 = .ok (.goto 21, 3) := by decide +kernel
theorem dX13_spansWord_145 : decode cX13_spansWord 145 = .ok (.iload_n 1, 1) := by decide +kernel
theorem dX13_spansWord_146 : decode cX13_spansWord 146 = .ok (.ifCond .eq 17, 3) := by decide +kernel
theorem dX13_spansWord_149 : decode cX13_spansWord 149 = .ok (.iload 6, 2) := by decide +kernel
theorem dX13_spansWord_151 : decode cX13_spansWord 151 = .ok (.ifCond .eq 12, 3) := by decide +kernel
theorem dX13_spansWord_154 : decode cX13_spansWord 154 = .ok (.aload_n 0, 1) := by decide +kernel
theorem dX13_spansWord_155 : decode cX13_spansWord 155 = .ok (.iload_n 3, 1) := by decide +kernel
theorem dX13_spansWord_156 : decode cX13_spansWord 156 = .ok (.iconst 1, 1) := by decide +kernel
theorem dX13_spansWord_157 : decode cX13_spansWord 157 = .ok (.isub, 1) := by decide +kernel
theorem dX13_spansWord_158 : decode cX13_spansWord 158 = .ok (.iconst (-1), 1) := by decide +kernel
theorem dX13_spansWord_159 : decode cX13_spansWord 159 = .ok (.invokevirtual 420, 3) := by decide +kernel
theorem dX13_spansWord_162 : decode cX13_spansWord 162 = .ok (.istore_n 3, 1) := by decide +kernel
theorem dX13_spansWord_163 : decode cX13_spansWord 163 = .ok (.aload_n 0, 1) := by decide +kernel
theorem dX13_spansWord_164 : decode cX13_spansWord 164 = .ok (.iconst 1, 1) := by decide +kernel
theorem dX13_spansWord_165 : decode cX13_spansWord 165 = .ok (.aload_n 0, 1) := by decide +kernel
theorem dX13_spansWord_166 : decode cX13_spansWord 166 = .ok (.getfield 213, 3) := by decide +kernel
theorem dX13_spansWord_169 : decode cX13_spansWord 169 = .ok (.iload_n 3, 1) := by decide +kernel
theorem dX13_spansWord_170 : decode cX13_spansWord 170 = .ok (.aload_n 0, 1) := by decide +kernel
theorem dX13_spansWord_171 : decode cX13_spansWord 171 = .ok (.getfield 213, 3) := by decide +kernel
theorem dX13_spansWord_174 : decode cX13_spansWord 174 = .ok (.iload 4, 2) := by decide +kernel
theorem dX13_spansWord_176 : decode cX13_spansWord 176 = .ok (.iconst 1, 1) := by decide +kernel
theorem dX13_spansWord_177 : decode cX13_spansWord 177 = .ok (.iadd, 1) := by decide +kernel
theorem dX13_spansWord_178 : decode cX13_spansWord 178 = .ok (.invokevirtual 410, 3) := by decide +kernel
theorem dX13_spansWord_181 : decode cX13_spansWord 181 = .ok (.iconst 1, 1) := by decide +kernel
theorem dX13_spansWord_182 : decode cX13_spansWord 182 = .ok (.ireturn, 1) := by decide +kernel
theorem dX13_spansQuotes_0 : decode cX13_spansQuotes 0 = .ok (.iconst (-1), 1) := by decide +kernel
theorem dX13_spansQuotes_1 : decode cX13_spansQuotes 1 = .ok (.istore_n 2, 1) := by decide +kernel
theorem dX13_spansQuotes_2 : decode cX13_spansQuotes 2 = .ok (.iconst 0, 1) := by decide +kernel
theorem dX13_spansQuotes_3 : decode cX13_spansQuotes 3 = .ok (.istore_n 3, 1) := by decide +kernel
theorem dX13_spansQuotes_4 : decode cX13_spansQuotes 4 = .ok (.iload_n 3, 1) := by decide +kernel
theorem dX13_spansQuotes_5 : decode cX13_spansQuotes 5 = .ok (.aload_n 0, 1) := by decide +kernel
theorem dX13_spansQuotes_6 : decode cX13_spansQuotes 6 = .ok (.getfield 17, 3) := by decide +kernel
theorem dX13_spansQuotes_9 : decode cX13_spansQuotes 9 = .ok (.aload_n 0, 1) := by decide +kernel
theorem dX13_spansQuotes_10 : decode cX13_spansQuotes 10 = .ok (.getfield 213, 3) := by decide +kernel
theorem dX13_spansQuotes_13 : decode cX13_spansQuotes 13 = .ok (.iaload, 1) := by decide +kernel
theorem dX13_spansQuotes_14 : decode cX13_spansQuotes 14 = .ok (.if_icmp .ge 84, 3) := by decide +kernel
theorem dX13_spansQuotes_17 : decode cX13_spansQuotes 17 = .ok (.aload_n 0, 1) := by decide +kernel
theorem dX13_spansQuotes_18 : decode cX13_spansQuotes 18 = .ok (.aload_n 0, 1) := by decide +kernel
theorem dX13_spansQuotes_19 : decode cX13_spansQuotes 19 = .ok (.getfield 213, 3) := by decide +kernel
theorem dX13_spansQuotes_22 : decode cX13_spansQuotes 22 = .ok (.iload_n 3, 1) := by decide +kernel
theorem dX13_spansQuotes_23 : decode cX13_spansQuotes 23 = .ok (.invokevirtual 206, 3) := by decide +kernel
theorem dX13_spansQuotes_26 : decode cX13_spansQuotes 26 = .ok (.bipush 34, 2) := by decide +kernel
theorem dX13_spansQuotes_28 : decode cX13_spansQuotes 28 = .ok (.if_icmp .ne 64, 3) := by decide +kernel
theorem dX13_spansQuotes_31 : decode cX13_spansQuotes 31 = .ok (.iload_n 2, 1) := by decide +kernel
theorem dX13_spansQuotes_32 : decode cX13_spansQuotes 32 = .ok (.iconst (-1), 1) := by decide +kernel
theorem dX13_spansQuotes_33 : decode cX13_spansQuotes 33 = .ok (.if_icmp .eq 48, 3) := by decide +kernel
theorem dX13_spansQuotes_36 : decode cX13_spansQuotes 36 = .ok (.iload_n 3, 1) := by decide +kernel
theorem dX13_spansQuotes_37 : decode cX13_spansQuotes 37 = .ok (.aload_n 0, 1) := by decide +kernel
theorem dX13_spansQuotes_38 : decode cX13_spansQuotes 38 = .ok (.getfield 216, 3) := by decide +kernel
theorem dX13_spansQuotes_41 : decode cX13_spansQuotes 41 = .ok (.if_icmp .lt 40, 3) := by decide +kernel
theorem dX13_spansQuotes_44 : decode cX13_spansQuotes 44 = .ok (.aload_n 0, 1) := by decide +kernel
theorem dX13_spansQuotes_45 : decode cX13_spansQuotes 45 = .ok (.iconst 1, 1) := by decide +kernel
theorem dX13_spansQuotes_46 : decode cX13_spansQuotes 46 = .ok (.aload_n 0, 1) := by decide +kernel
theorem dX13_spansQuotes_47 : decode cX13_spansQuotes 47 = .ok (.getfield 213, 3) := by decide +kernel
theorem dX13_spansQuotes_50 : decode cX13_spansQuotes 50 = .ok (.iload_n 1, 1) := by decide +kernel
theorem dX13_spansQuotes_51 : decode cX13_spansQuotes 51 = .ok (.ifCond .eq 7, 3) := by decide +kernel
theorem dX13_spansQuotes_54 : decode cX13_spansQuotes 54 = .ok (.iload_n 2, 1) := by decide +kernel
theorem dX13_spansQuotes_55 : decode cX13_spansQuotes 55 = .ok (.goto 6, 3) := by decide +kernel
theorem dX13_spansQuotes_58 : decode cX13_spansQuotes 58 = .ok (.iload_n 2, 1) := by decide +kernel
theorem dX13_spansQuotes_59 : decode cX13_spansQuotes 59 = .ok (.iconst 1, 1) := by decide +kernel
theorem dX13_spansQuotes_60 : decode cX13_spansQuotes 60 = .ok (.iadd, 1) := by decide +kernel
theorem dX13_spansQuotes_61 : decode cX13_spansQuotes 61 = .ok (.aload_n 0, 1) := by decide +kernel
theorem dX13_spansQuotes_62 : decode cX13_spansQuotes 62 = .ok (.getfield 213, 3) := by decide +kernel
theorem dX13_spansQuotes_65 : decode cX13_spansQuotes 65 = .ok (.iload_n 1, 1) := by decide +kernel
theorem dX13_spansQuotes_66 : decode cX13_spansQuotes 66 = .ok (.ifCond .eq 9, 3) := by decide +kernel
theorem dX13_spansQuotes_69 : decode cX13_spansQuotes 69 = .ok (.iload_n 3, 1) := by decide +kernel
theorem dX13_spansQuotes_70 : decode cX13_spansQuotes 70 = .ok (.iconst 1, 1) := by decide +kernel
theorem dX13_spansQuotes_71 : decode cX13_spansQuotes 71 = .ok (.iadd, 1) := by decide +kernel
theorem dX13_spansQuotes_72 : decode cX13_spansQuotes 72 = .ok (.goto 4, 3) := by decide +kernel
theorem dX13_spansQuotes_75 : decode cX13_spansQuotes 75 = .ok (.iload_n 3, 1) := by decide +kernel
theorem dX13_spansQuotes_76 : decode cX13_spansQuotes 76 = .ok (.invokevirtual 410, 3) := by decide +kernel
theorem dX13_spansQuotes_79 : decode cX13_spansQuotes 79 = .ok (.iconst 1, 1) := by decide +kernel
theorem dX13_spansQuotes_80 : decode cX13_spansQuotes 80 = .ok (.ireturn, 1) := by decide +kernel
theorem dX13_spansQuotes_81 : decode cX13_spansQuotes 81 = .ok (.iload_n 2, 1) := by decide +kernel
theorem dX13_spansQuotes_82 : decode cX13_spansQuotes 82 = .ok (.iconst (-1), 1) := by decide +kernel
theorem dX13_spansQuotes_83 : decode cX13_spansQuotes 83 = .ok (.if_icmp .ne 7, 3) := by decide +kernel
theorem dX13_spansQuotes_86 : decode cX13_spansQuotes 86 = .ok (.iload_n 3, 1) := by decide +kernel
theorem dX13_spansQuotes_87 : decode cX13_spansQuotes 87 = .ok (.goto 4, 3) := by decide +kernel
theorem dX13_spansQuotes_90 : decode cX13_spansQuotes 90 = .ok (.iconst (-1), 1) := by decide +kernel
theorem dX13_spansQuotes_91 : decode cX13_spansQuotes 91 = .ok (.istore_n 2, 1) := by decide +kernel
theorem dX13_spansQuotes_92 : decode cX13_spansQuotes 92 = .ok (.iinc 3 1, 3) := by decide +kernel
theorem dX13_spansQuotes_95 : decode cX13_spansQuotes 95 = .ok (.goto (-91), 3) := by decide +kernel
theorem dX13_spansQuotes_98 : decode cX13_spansQuotes 98 = .ok (.iconst 0, 1) := by decide +kernel
theorem dX13_spansQuotes_99 : decode cX13_spansQuotes 99 = .ok (.ireturn, 1) := by decide +kernel
theorem dX13_spansBrackets_0 : decode cX13_spansBrackets 0 = .ok (.aload_n 0, 1) := by decide +kernel
theorem dX13_spansBrackets_1 : decode cX13_spansBrackets 1 = .ok (.aload_n 0, 1) := by decide +kernel
theorem dX13_spansBrackets_2 : decode cX13_spansBrackets 2 = .ok (.getfield 213, 3) := by decide +kernel
theorem dX13_spansBrackets_5 : decode cX13_spansBrackets 5 = .ok (.aload_n 0, 1) := by decide +kernel
theorem dX13_spansBrackets_6 : decode cX13_spansBrackets 6 = .ok (.getfield 216, 3) := by decide +kernel
theorem dX13_spansBrackets_9 : decode cX13_spansBrackets 9 = .ok (.invokevirtual 306, 3) := by decide +kernel
theorem dX13_spansBrackets_12 : decode cX13_spansBrackets 12 = .ok (.iload_n 1, 1) := by decide +kernel
theorem dX13_spansBrackets_13 : decode cX13_spansBrackets 13 = .ok (.invokestatic 333, 3) := by decide +kernel
theorem dX13_spansBrackets_16 : decode cX13_spansBrackets 16 = .ok (.istore 4, 2) := by decide +kernel
theorem dX13_spansBrackets_18 : decode cX13_spansBrackets 18 = .ok (.aload_n 0, 1) := by decide +kernel
theorem dX13_spansBrackets_19 : decode cX13_spansBrackets 19 = .ok (.aload_n 0, 1) := by decide +kernel
theorem dX13_spansBrackets_20 : decode cX13_spansBrackets 20 = .ok (.getfield 213, 3) := by decide +kernel
theorem dX13_spansBrackets_23 : decode cX13_spansBrackets 23 = .ok (.aload_n 0, 1) := by decide +kernel
theorem dX13_spansBrackets_24 : decode cX13_spansBrackets 24 = .ok (.getfield 216, 3) := by decide +kernel
theorem dX13_spansBrackets_27 : decode cX13_spansBrackets 27 = .ok (.invokevirtual 293, 3) := by decide +kernel
theorem dX13_spansBrackets_30 : decode cX13_spansBrackets 30 = .ok (.iconst (-1), 1) := by decide +kernel
theorem dX13_spansBrackets_31 : decode cX13_spansBrackets 31 = .ok (.if_icmp .ne 7, 3) := by decide +kernel
theorem dX13_spansBrackets_34 : decode cX13_spansBrackets 34 = .ok (.iconst (-1), 1) := by decide +kernel
theorem dX13_spansBrackets_35 : decode cX13_spansBrackets 35 = .ok (.goto 15, 3) := by decide +kernel
theorem dX13_spansBrackets_38 : decode cX13_spansBrackets 38 = .ok (.aload_n 0, 1) := by decide +kernel
theorem dX13_spansBrackets_39 : decode cX13_spansBrackets 39 = .ok (.aload_n 0, 1) := by decide +kernel
theorem dX13_spansBrackets_40 : decode cX13_spansBrackets 40 = .ok (.getfield 213, 3) := by decide +kernel
theorem dX13_spansBrackets_43 : decode cX13_spansBrackets 43 = .ok (.aload_n 0, 1) := by decide +kernel
theorem dX13_spansBrackets_44 : decode cX13_spansBrackets 44 = .ok (.getfield 216, 3) := by decide +kernel
theorem dX13_spansBrackets_47 : decode cX13_spansBrackets 47 = .ok (.invokevirtual 206, 3) := by decide +kernel
theorem dX13_spansBrackets_50 : decode cX13_spansBrackets 50 = .ok (.istore 5, 2) := by decide +kernel
theorem dX13_spansBrackets_52 : decode cX13_spansBrackets 52 = .ok (.iload 5, 2) := by decide +kernel
theorem dX13_spansBrackets_54 : decode cX13_spansBrackets 54 = .ok (.iload_n 1, 1) := by decide +kernel
theorem dX13_spansBrackets_55 : decode cX13_spansBrackets 55 = .ok (.if_icmp .eq 10, 3) := by decide +kernel
theorem dX13_spansBrackets_58 : decode cX13_spansBrackets 58 = .ok (.iload 5, 2) := by decide +kernel
theorem dX13_spansBrackets_60 : decode cX13_spansBrackets 60 = .ok (.iload 4, 2) := by decide +kernel
theorem dX13_spansBrackets_62 : decode cX13_spansBrackets 62 = .ok (.if_icmp .ne 9, 3) := by decide +kernel
theorem dX13_spansBrackets_65 : decode cX13_spansBrackets 65 = .ok (.iload_n 3, 1) := by decide +kernel
theorem dX13_spansBrackets_66 : decode cX13_spansBrackets 66 = .ok (.iconst 1, 1) := by decide +kernel
theorem dX13_spansBrackets_67 : decode cX13_spansBrackets 67 = .ok (.isub, 1) := by decide +kernel
theorem dX13_spansBrackets_68 : decode cX13_spansBrackets 68 = .ok (.goto 4, 3) := by decide +kernel
theorem dX13_spansBrackets_71 : decode cX13_spansBrackets 71 = .ok (.iload_n 3, 1) := by decide +kernel
theorem dX13_spansBrackets_72 : decode cX13_spansBrackets 72 = .ok (.istore 6, 2) := by decide +kernel
theorem dX13_spansBrackets_74 : decode cX13_spansBrackets 74 = .ok (.iload 5, 2) := by decide +kernel
theorem dX13_spansBrackets_76 : decode cX13_spansBrackets 76 = .ok (.iload 4, 2) := by decide +kernel
theorem dX13_spansBrackets_78 : decode cX13_spansBrackets 78 = .ok (.if_icmp .ne 17, 3) := by decide +kernel
theorem dX13_spansBrackets_81 : decode cX13_spansBrackets 81 = .ok (.aload_n 0, 1) := by decide +kernel
theorem dX13_spansBrackets_82 : decode cX13_spansBrackets 82 = .ok (.iload 4, 2) := by decide +kernel
theorem dX13_spansBrackets_84 : decode cX13_spansBrackets 84 = .ok (.iload_n 1, 1) := by decide +kernel
theorem dX13_spansBrackets_85 : decode cX13_spansBrackets 85 = .ok (.iconst (-1), 1) := by decide +kernel
theorem dX13_spansBrackets_86 : decode cX13_spansBrackets 86 = .ok (.iconst 1, 1) := by decide +kernel
theorem dX13_spansBrackets_87 : decode cX13_spansBrackets 87 = .ok (.invokevirtual 339, 3) := by decide +kernel
theorem dX13_spansBrackets_90 : decode cX13_spansBrackets 90 = .ok (.ifCond .ne 5, 3) := by decide +kernel
theorem dX13_spansBrackets_93 : decode cX13_spansBrackets 93 = .ok (.iconst 0, 1) := by decide +kernel
theorem dX13_spansBrackets_94 : decode cX13_spansBrackets 94 = .ok (.ireturn, 1) := by decide +kernel
theorem dX13_spansBrackets_95 : decode cX13_spansBrackets 95 = .ok (.iload 6, 2) := by decide +kernel
theorem dX13_spansBrackets_97 : decode cX13_spansBrackets 97 = .ok (.ifCond .le 18, 3) := by decide +kernel
theorem dX13_spansBrackets_100 : decode cX13_spansBrackets 100 = .ok (.aload_n 0, 1) := by decide +kernel
theorem dX13_spansBrackets_101 : decode cX13_spansBrackets 101 = .ok (.iload 4, 2) := by decide +kernel
theorem dX13_spansBrackets_103 : decode cX13_spansBrackets 103 = .ok (.iload_n 1, 1) := by decide +kernel
theorem dX13_spansBrackets_104 : decode cX13_spansBrackets 104 = .ok (.iconst (-1), 1) := by decide +kernel
theorem dX13_spansBrackets_105 : decode cX13_spansBrackets 105 = .ok (.iload 6, 2) := by decide +kernel
theorem dX13_spansBrackets_107 : decode cX13_spansBrackets 107 = .ok (.invokevirtual 339, 3) := by decide +kernel
theorem dX13_spansBrackets_110 : decode cX13_spansBrackets 110 = .ok (.ifCond .ne 5, 3) := by decide +kernel
theorem dX13_spansBrackets_113 : decode cX13_spansBrackets 113 = .ok (.iconst 0, 1) := by decide +kernel
theorem dX13_spansBrackets_114 : decode cX13_spansBrackets 114 = .ok (.ireturn, 1) := by decide +kernel
theorem dX13_spansBrackets_115 : decode cX13_spansBrackets 115 = .ok (.aload_n 0, 1) := by decide +kernel
theorem dX13_spansBrackets_116 : decode cX13_spansBrackets 116 = .ok (.getfield 296, 3) := by decide +kernel
theorem dX13_spansBrackets_119 : decode cX13_spansBrackets 119 = .ok (.istore 7, 2) := by decide +kernel
theorem dX13_spansBrackets_121 : decode cX13_spansBrackets 121 = .ok (.aload_n 0, 1) := by decide +kernel
theorem dX13_spansBrackets_122 : decode cX13_spansBrackets 122 = .ok (.getfield 299, 3) := by decide +kernel
theorem dX13_spansBrackets_125 : decode cX13_spansBrackets 125 = .ok (.istore 8, 2) := by decide +kernel
theorem dX13_spansBrackets_127 : decode cX13_spansBrackets 127 = .ok (.aload_n 0, 1) := by decide +kernel
theorem dX13_spansBrackets_128 : decode cX13_spansBrackets 128 = .ok (.iload_n 1, 1) := by decide +kernel
theorem dX13_spansBrackets_129 : decode cX13_spansBrackets 129 = .ok (.iload 4, 2) := by decide +kernel
theorem dX13_spansBrackets_131 : decode cX13_spansBrackets 131 = .ok (.iconst 1, 1) := by decide +kernel
theorem dX13_spansBrackets_132 : decode cX13_spansBrackets 132 = .ok (.iconst 1, 1) := by decide +kernel
theorem dX13_spansBrackets_133 : decode cX13_spansBrackets 133 = .ok (.invokevirtual 339, 3) := by decide +kernel
theorem dX13_spansBrackets_136 : decode cX13_spansBrackets 136 = .ok (.ifCond .ne 5, 3) := by decide +kernel
theorem dX13_spansBrackets_139 : decode cX13_spansBrackets 139 = .ok (.iconst 0, 1) := by decide +kernel
theorem dX13_spansBrackets_140 : decode cX13_spansBrackets 140 = .ok (.ireturn, 1) := by decide +kernel
theorem dX13_spansBrackets_141 : decode cX13_spansBrackets 141 = .ok (.aload_n 0, 1) := by decide +kernel
theorem dX13_spansBrackets_142 : decode cX13_spansBrackets 142 = .ok (.iconst 1, 1) := by decide +kernel
theorem dX13_spansBrackets_143 : decode cX13_spansBrackets 143 = .ok (.iload 7, 2) := by decide +kernel
theorem dX13_spansBrackets_145 : decode cX13_spansBrackets 145 = .ok (.iload_n 2, 1) := by decide +kernel
theorem dX13_spansBrackets_146 : decode cX13_spansBrackets 146 = .ok (.ifCond .eq 8, 3) := by decide +kernel
theorem dX13_spansBrackets_149 : decode cX13_spansBrackets 149 = .ok (.iload 8, 2) := by decide +kernel
theorem dX13_spansBrackets_151 : decode cX13_spansBrackets 151 = .ok (.goto 7, 3) := by decide +kernel
theorem dX13_spansBrackets_154 : decode cX13_spansBrackets 154 = .ok (.iload 8, 2) := by decide +kernel
theorem dX13_spansBrackets_156 : decode cX13_spansBrackets 156 = .ok (.iconst 1, 1) := by decide +kernel
theorem dX13_spansBrackets_157 : decode cX13_spansBrackets 157 = .ok (.iadd, 1) := by decide +kernel
theorem dX13_spansBrackets_158 : decode cX13_spansBrackets 158 = .ok (.aload_n 0, 1) := by decide +kernel
theorem dX13_spansBrackets_159 : decode cX13_spansBrackets 159 = .ok (.getfield 296, 3) := by decide +kernel
theorem dX13_spansBrackets_162 : decode cX13_spansBrackets 162 = .ok (.iload_n 2, 1) := by decide +kernel
theorem dX13_spansBrackets_163 : decode cX13_spansBrackets 163 = .ok (.ifCond .eq 12, 3) := by decide +kernel
theorem dX13_spansBrackets_166 : decode cX13_spansBrackets 166 = .ok (.aload_n 0, 1) := by decide +kernel
theorem dX13_spansBrackets_167 : decode cX13_spansBrackets 167 = .ok (.getfield 299, 3) := by decide +kernel
theorem dX13_spansBrackets_170 : decode cX13_spansBrackets 170 = .ok (.iconst 1, 1) := by decide +kernel
theorem dX13_spansBrackets_171 : decode cX13_spansBrackets 171 = .ok (.iadd, 1) := by decide +kernel
theorem dX13_spansBrackets_172 : decode cX13_spansBrackets 172 = .ok (.goto 7, 3) := by decide +kernel
theorem dX13_spansBrackets_175 : decode cX13_spansBrackets 175 = .ok (.aload_n 0, 1) := by decide +kernel
theorem dX13_spansBrackets_176 : decode cX13_spansBrackets 176 = .ok (.getfield 299, 3) := by decide +kernel
theorem dX13_spansBrackets_179 : decode cX13_spansBrackets 179 = .ok (.invokevirtual 410, 3) := by decide +kernel
theorem dX13_spansBrackets_182 : decode cX13_spansBrackets 182 = .ok (.iconst 1, 1) := by decide +kernel
theorem dX13_spansBrackets_183 : decode cX13_spansBrackets 183 = .ok (.ireturn, 1) := by decide +kernel
theorem dX13_isEmpty_0 : decode cX13_isEmpty 0 = .ok (.aload_n 0, 1) := by decide +kernel
theorem dX13_isEmpty_1 : decode cX13_isEmpty 1 = .ok (.getfield 17, 3) := by decide +kernel
theorem dX13_isEmpty_4 : decode cX13_isEmpty 4 = .ok (.iload_n 1, 1) := by decide +kernel
theorem dX13_isEmpty_5 : decode cX13_isEmpty 5 = .ok (.iaload, 1) := by decide +kernel
theorem dX13_isEmpty_6 : decode cX13_isEmpty 6 = .ok (.ifCond .ne 7, 3) := by decide +kernel
theorem dX13_isEmpty_9 : decode cX13_isEmpty 9 = .ok (.iconst 1, 1) := by decide +kernel
theorem dX13_isEmpty_10 : decode cX13_isEmpty 10 = .ok (.goto 4, 3) := by decide +kernel
theorem dX13_isEmpty_13 : decode cX13_isEmpty 13 = .ok (.iconst 0, 1) := by decide +kernel
theorem dX13_isEmpty_14 : decode cX13_isEmpty 14 = .ok (.ireturn, 1) := by decide +kernel
theorem dX13_spansPart_0 : decode cX13_spansPart 0 = .ok (.aload_n 0, 1) := by decide +kernel
theorem dX13_spansPart_1 : decode cX13_spansPart 1 = .ok (.getfield 213, 3) := by decide +kernel
theorem dX13_spansPart_4 : decode cX13_spansPart 4 = .ok (.istore_n 2, 1) := by decide +kernel
theorem dX13_spansPart_5 : decode cX13_spansPart 5 = .ok (.aload_n 0, 1) := by decide +kernel
theorem dX13_spansPart_6 : decode cX13_spansPart 6 = .ok (.getfield 213, 3) := by decide +kernel
theorem dX13_spansPart_9 : decode cX13_spansPart 9 = .ok (.istore_n 3, 1) := by decide +kernel
theorem dX13_spansPart_10 : decode cX13_spansPart 10 = .ok (.iload_n 2, 1) := by decide +kernel
theorem dX13_spansPart_11 : decode cX13_spansPart 11 = .ok (.ifCond .le 27, 3) := by decide +kernel
theorem dX13_spansPart_14 : decode cX13_spansPart 14 = .ok (.aload_n 0, 1) := by decide +kernel
theorem dX13_spansPart_15 : decode cX13_spansPart 15 = .ok (.iload_n 2, 1) := by decide +kernel
theorem dX13_spansPart_16 : decode cX13_spansPart 16 = .ok (.iconst 1, 1) := by decide +kernel
theorem dX13_spansPart_17 : decode cX13_spansPart 17 = .ok (.isub, 1) := by decide +kernel
theorem dX13_spansPart_18 : decode cX13_spansPart 18 = .ok (.invokevirtual 423, 3) := by decide +kernel
theorem dX13_spansPart_21 : decode cX13_spansPart 21 = .ok (.aload_n 0, 1) := by decide +kernel
theorem dX13_spansPart_22 : decode cX13_spansPart 22 = .ok (.aload_n 0, 1) := by decide +kernel
theorem dX13_spansPart_23 : decode cX13_spansPart 23 = .ok (.getfield 213, 3) := by decide +kernel
theorem dX13_spansPart_26 : decode cX13_spansPart 26 = .ok (.invokevirtual 423, 3) := by decide +kernel
theorem dX13_spansPart_29 : decode cX13_spansPart 29 = .ok (.if_icmp .ne 9, 3) := by decide +kernel
theorem dX13_spansPart_32 : decode cX13_spansPart 32 = .ok (.iinc 2 (-1), 3) := by decide +kernel
theorem dX13_spansPart_35 : decode cX13_spansPart 35 = .ok (.goto (-25), 3) := by decide +kernel
theorem dX13_spansPart_38 : decode cX13_spansPart 38 = .ok (.iload_n 3, 1) := by decide +kernel
theorem dX13_spansPart_39 : decode cX13_spansPart 39 = .ok (.iconst 1, 1) := by decide +kernel
theorem dX13_spansPart_40 : decode cX13_spansPart 40 = .ok (.iadd, 1) := by decide +kernel
theorem dX13_spansPart_41 : decode cX13_spansPart 41 = .ok (.aload_n 0, 1) := by decide +kernel
theorem dX13_spansPart_42 : decode cX13_spansPart 42 = .ok (.getfield 13, 3) := by decide +kernel
theorem dX13_spansPart_45 : decode cX13_spansPart 45 = .ok (.if_icmp .ge 27, 3) := by decide +kernel
theorem dX13_spansPart_48 : decode cX13_spansPart 48 = .ok (.aload_n 0, 1) := by decide +kernel
theorem dX13_spansPart_49 : decode cX13_spansPart 49 = .ok (.iload_n 3, 1) := by decide +kernel
theorem dX13_spansPart_50 : decode cX13_spansPart 50 = .ok (.iconst 1, 1) := by decide +kernel
theorem dX13_spansPart_51 : decode cX13_spansPart 51 = .ok (.iadd, 1) := by decide +kernel
theorem dX13_spansPart_52 : decode cX13_spansPart 52 = .ok (.invokevirtual 423, 3) := by decide +kernel
theorem dX13_spansPart_55 : decode cX13_spansPart 55 = .ok (.aload_n 0, 1) := by decide +kernel
theorem dX13_spansPart_56 : decode cX13_spansPart 56 = .ok (.aload_n 0, 1) := by decide +kernel
theorem dX13_spansPart_57 : decode cX13_spansPart 57 = .ok (.getfield 213, 3) := by decide +kernel
theorem dX13_spansPart_60 : decode cX13_spansPart 60 = .ok (.invokevirtual 423, 3) := by decide +kernel
theorem dX13_spansPart_63 : decode cX13_spansPart 63 = .ok (.if_icmp .ne 9, 3) := by decide +kernel
theorem dX13_spansPart_66 : decode cX13_spansPart 66 = .ok (.iinc 3 1, 3) := by decide +kernel
theorem dX13_spansPart_69 : decode cX13_spansPart 69 = .ok (.goto (-31), 3) := by decide +kernel
theorem dX13_spansPart_72 : decode cX13_spansPart 72 = .ok (.iload_n 1, 1) := by decide +kernel
theorem dX13_spansPart_73 : decode cX13_spansPart 73 = .ok (.ifCond .eq 50, 3) := by decide +kernel
theorem dX13_spansPart_76 : decode cX13_spansPart 76 = .ok (.iload_n 3, 1) := by decide +kernel
theorem dX13_spansPart_77 : decode cX13_spansPart 77 = .ok (.iconst 1, 1) := by decide +kernel
theorem dX13_spansPart_78 : decode cX13_spansPart 78 = .ok (.iadd, 1) := by decide +kernel
theorem dX13_spansPart_79 : decode cX13_spansPart 79 = .ok (.aload_n 0, 1) := by decide +kernel
theorem dX13_spansPart_80 : decode cX13_spansPart 80 = .ok (.getfield 13, 3) := by decide +kernel
theorem dX13_spansPart_83 : decode cX13_spansPart 83 = .ok (.if_icmp .ge 40, 3) := by decide +kernel
theorem dX13_spansPart_86 : decode cX13_spansPart 86 = .ok (.iinc 3 1, 3) := by decide +kernel
theorem dX13_spansPart_89 : decode cX13_spansPart 89 = .ok (.iload_n 3, 1) := by decide +kernel
theorem dX13_spansPart_90 : decode cX13_spansPart 90 = .ok (.iconst 1, 1) := by decide +kernel
theorem dX13_spansPart_91 : decode cX13_spansPart 91 = .ok (.iadd, 1) := by decide +kernel
theorem dX13_spansPart_92 : decode cX13_spansPart 92 = .ok (.aload_n 0, 1) := by decide +kernel
theorem dX13_spansPart_93 : decode cX13_spansPart 93 = .ok (.getfield 13, 3) := by decide +kernel
theorem dX13_spansPart_96 : decode cX13_spansPart 96 = .ok (.if_icmp .ge 66, 3) := by decide +kernel
theorem dX13_spansPart_99 : decode cX13_spansPart 99 = .ok (.aload_n 0, 1) := by decide +kernel
theorem dX13_spansPart_100 : decode cX13_spansPart 100 = .ok (.iload_n 3, 1) := by decide +kernel
theorem dX13_spansPart_101 : decode cX13_spansPart 101 = .ok (.iconst 1, 1) := by decide +kernel
theorem dX13_spansPart_102 : decode cX13_spansPart 102 = .ok (.iadd, 1) := by decide +kernel
theorem dX13_spansPart_103 : decode cX13_spansPart 103 = .ok (.invokevirtual 423, 3) := by decide +kernel
theorem dX13_spansPart_106 : decode cX13_spansPart 106 = .ok (.aload_n 0, 1) := by decide +kernel
theorem dX13_spansPart_107 : decode cX13_spansPart 107 = .ok (.aload_n 0, 1) := by decide +kernel
theorem dX13_spansPart_108 : decode cX13_spansPart 108 = .ok (.getfield 213, 3) := by decide +kernel
theorem dX13_spansPart_111 : decode cX13_spansPart 111 = .ok (.invokevirtual 423, 3) := by decide +kernel
theorem dX13_spansPart_114 : decode cX13_spansPart 114 = .ok (.if_icmp .eq 48, 3) := by decide +kernel
theorem dX13_spansPart_117 : decode cX13_spansPart 117 = .ok (.iinc 3 1, 3) := by decide +kernel
theorem dX13_spansPart_120 : decode cX13_spansPart 120 = .ok (.goto (-31), 3) := by decide +kernel
theorem dX13_spansPart_123 : decode cX13_spansPart 123 = .ok (.iload_n 1, 1) := by decide +kernel
theorem dX13_spansPart_124 : decode cX13_spansPart 124 = .ok (.ifCond .eq 38, 3) := by decide +kernel
theorem dX13_spansPart_127 : decode cX13_spansPart 127 = .ok (.iload_n 2, 1) := by decide +kernel
theorem dX13_spansPart_128 : decode cX13_spansPart 128 = .ok (.ifCond .le 34, 3) := by decide +kernel
theorem dX13_spansPart_131 : decode cX13_spansPart 131 = .ok (.iinc 2 (-1), 3) := by decide +kernel
theorem dX13_spansPart_134 : decode cX13_spansPart 134 = .ok (.iload_n 2, 1) := by decide +kernel
theorem dX13_spansPart_135 : decode cX13_spansPart 135 = .ok (.ifCond .le 27, 3) := by decide +kernel
theorem dX13_spansPart_138 : decode cX13_spansPart 138 = .ok (.aload_n 0, 1) := by decide +kernel
theorem dX13_spansPart_139 : decode cX13_spansPart 139 = .ok (.iload_n 2, 1) := by decide +kernel
theorem dX13_spansPart_140 : decode cX13_spansPart 140 = .ok (.iconst 1, 1) := by decide +kernel
theorem dX13_spansPart_141 : decode cX13_spansPart 141 = .ok (.isub, 1) := by decide +kernel
theorem dX13_spansPart_142 : decode cX13_spansPart 142 = .ok (.invokevirtual 423, 3) := by decide +kernel
theorem dX13_spansPart_145 : decode cX13_spansPart 145 = .ok (.aload_n 0, 1) := by decide +kernel
theorem dX13_spansPart_146 : decode cX13_spansPart 146 = .ok (.aload_n 0, 1) := by decide +kernel
theorem dX13_spansPart_147 : decode cX13_spansPart 147 = .ok (.getfield 213, 3) := by decide +kernel
theorem dX13_spansPart_150 : decode cX13_spansPart 150 = .ok (.invokevirtual 423, 3) := by decide +kernel
theorem dX13_spansPart_153 : decode cX13_spansPart 153 = .ok (.if_icmp .eq 9, 3) := by decide +kernel
theorem dX13_spansPart_156 : decode cX13_spansPart 156 = .ok (.iinc 2 (-1), 3) := by decide +kernel
theorem dX13_spansPart_159 : decode cX13_spansPart 159 = .ok (.goto (-25), 3) := by decide +kernel
theorem dX13_spansPart_162 : decode cX13_spansPart 162 = .ok (.aload_n 0, 1) := by decide +kernel
theorem dX13_spansPart_163 : decode cX13_spansPart 163 = .ok (.iload_n 2, 1) := by decide +kernel
theorem dX13_spansPart_164 : decode cX13_spansPart 164 = .ok (.iload_n 3, 1) := by decide +kernel
theorem dX13_spansPart_165 : decode cX13_spansPart 165 = .ok (.invokevirtual 414, 3) := by decide +kernel
theorem dX13_spansPart_168 : decode cX13_spansPart 168 = .ok (.iconst 1, 1) := by decide +kernel
theorem dX13_spansPart_169 : decode cX13_spansPart 169 = .ok (.ireturn, 1) := by decide +kernel
theorem dX13_spansObject_0 : decode cX13_spansObject 0 = .ok (.iload_n 1, 1) := by decide +kernel
theorem dX13_spansObject_1 : decode cX13_spansObject 1 = .ok (.bipush 119, 2) := by decide +kernel
theorem dX13_spansObject_3 : decode cX13_spansObject 3 = .ok (.if_icmp .ne 12, 3) := by decide +kernel
theorem dX13_spansObject_6 : decode cX13_spansObject 6 = .ok (.aload_n 0, 1) := by decide +kernel
theorem dX13_spansObject_7 : decode cX13_spansObject 7 = .ok (.iload_n 2, 1) := by decide +kernel
theorem dX13_spansObject_8 : decode cX13_spansObject 8 = .ok (.iload_n 3, 1) := by decide +kernel
theorem dX13_spansObject_9 : decode cX13_spansObject 9 = .ok (.invokevirtual 426, 3) := by decide +kernel
theorem dX13_spansObject_12 : decode cX13_spansObject 12 = .ok (.goto 38, 3) := by decide +kernel
theorem dX13_spansObject_15 : decode cX13_spansObject 15 = .ok (.iload_n 1, 1) := by decide +kernel
theorem dX13_spansObject_16 : decode cX13_spansObject 16 = .ok (.bipush 34, 2) := by decide +kernel
theorem dX13_spansObject_18 : decode cX13_spansObject 18 = .ok (.if_icmp .ne 11, 3) := by decide +kernel
theorem dX13_spansObject_21 : decode cX13_spansObject 21 = .ok (.aload_n 0, 1) := by decide +kernel
theorem dX13_spansObject_22 : decode cX13_spansObject 22 = .ok (.iload_n 2, 1) := by decide +kernel
theorem dX13_spansObject_23 : decode cX13_spansObject 23 = .ok (.invokevirtual 430, 3) := by decide +kernel
theorem dX13_spansObject_26 : decode cX13_spansObject 26 = .ok (.goto 24, 3) := by decide +kernel
theorem dX13_spansObject_29 : decode cX13_spansObject 29 = .ok (.iload_n 1, 1) := by decide +kernel
theorem dX13_spansObject_30 : decode cX13_spansObject 30 = .ok (.bipush 112, 2) := by decide +kernel
theorem dX13_spansObject_32 : decode cX13_spansObject 32 = .ok (.if_icmp .ne 11, 3) := by decide +kernel
theorem dX13_spansObject_35 : decode cX13_spansObject 35 = .ok (.aload_n 0, 1) := by decide +kernel
theorem dX13_spansObject_36 : decode cX13_spansObject 36 = .ok (.iload_n 2, 1) := by decide +kernel
theorem dX13_spansObject_37 : decode cX13_spansObject 37 = .ok (.invokevirtual 434, 3) := by decide +kernel
theorem dX13_spansObject_40 : decode cX13_spansObject 40 = .ok (.goto 10, 3) := by decide +kernel
theorem dX13_spansObject_43 : decode cX13_spansObject 43 = .ok (.aload_n 0, 1) := by decide +kernel
theorem dX13_spansObject_44 : decode cX13_spansObject 44 = .ok (.iload_n 1, 1) := by decide +kernel
theorem dX13_spansObject_45 : decode cX13_spansObject 45 = .ok (.iload_n 2, 1) := by decide +kernel
theorem dX13_spansObject_46 : decode cX13_spansObject 46 = .ok (.iload_n 3, 1) := by decide +kernel
theorem dX13_spansObject_47 : decode cX13_spansObject 47 = .ok (.invokevirtual 437, 3) := by decide +kernel
theorem dX13_spansObject_50 : decode cX13_spansObject 50 = .ok (.ireturn, 1) := by decide +kernel
theorem dX13_registerOf_0 : decode cX13_registerOf 0 = .ok (.iload_n 0, 1) := by decide +kernel
theorem dX13_registerOf_1 : decode cX13_registerOf 1 = .ok (.bipush 97, 2) := by decide +kernel
theorem dX13_registerOf_3 : decode cX13_registerOf 3 = .ok (.bipush 122, 2) := by decide +kernel
theorem dX13_registerOf_5 : decode cX13_registerOf 5 = .ok (.invokestatic 198, 3) := by decide +kernel
theorem dX13_registerOf_8 : decode cX13_registerOf 8 = .ok (.ifCond .ne 14, 3) := by decide +kernel
theorem dX13_registerOf_11 : decode cX13_registerOf 11 = .ok (.iload_n 0, 1) := by decide +kernel
theorem dX13_registerOf_12 : decode cX13_registerOf 12 = .ok (.bipush 65, 2) := by decide +kernel
theorem dX13_registerOf_14 : decode cX13_registerOf 14 = .ok (.bipush 90, 2) := by decide +kernel
theorem dX13_registerOf_16 : decode cX13_registerOf 16 = .ok (.invokestatic 198, 3) := by decide +kernel
theorem dX13_registerOf_19 : decode cX13_registerOf 19 = .ok (.ifCond .eq 21, 3) := by decide +kernel
theorem dX13_registerOf_22 : decode cX13_registerOf 22 = .ok (.iload_n 0, 1) := by decide +kernel
theorem dX13_registerOf_23 : decode cX13_registerOf 23 = .ok (.bipush 97, 2) := by decide +kernel
theorem dX13_registerOf_25 : decode cX13_registerOf 25 = .ok (.if_icmp .lt 10, 3) := by decide +kernel
theorem dX13_registerOf_28 : decode cX13_registerOf 28 = .ok (.iload_n 0, 1) := by decide +kernel
theorem dX13_registerOf_29 : decode cX13_registerOf 29 = .ok (.bipush 97, 2) := by decide +kernel
theorem dX13_registerOf_31 : decode cX13_registerOf 31 = .ok (.isub, 1) := by decide +kernel
theorem dX13_registerOf_32 : decode cX13_registerOf 32 = .ok (.goto 7, 3) := by decide +kernel
theorem dX13_registerOf_35 : decode cX13_registerOf 35 = .ok (.iload_n 0, 1) := by decide +kernel
theorem dX13_registerOf_36 : decode cX13_registerOf 36 = .ok (.bipush 65, 2) := by decide +kernel
theorem dX13_registerOf_38 : decode cX13_registerOf 38 = .ok (.isub, 1) := by decide +kernel
theorem dX13_registerOf_39 : decode cX13_registerOf 39 = .ok (.ireturn, 1) := by decide +kernel
theorem dX13_registerOf_40 : decode cX13_registerOf 40 = .ok (.iload_n 0, 1) := by decide +kernel
theorem dX13_registerOf_41 : decode cX13_registerOf 41 = .ok (.bipush 48, 2) := by decide +kernel
theorem dX13_registerOf_43 : decode cX13_registerOf 43 = .ok (.bipush 57, 2) := by decide +kernel
theorem dX13_registerOf_45 : decode cX13_registerOf 45 = .ok (.invokestatic 198, 3) := by decide +kernel
theorem dX13_registerOf_48 : decode cX13_registerOf 48 = .ok (.ifCond .eq 13, 3) := by decide +kernel
theorem dX13_registerOf_51 : decode cX13_registerOf 51 = .ok (.bipush 26, 2) := by decide +kernel
theorem dX13_registerOf_53 : decode cX13_registerOf 53 = .ok (.iload_n 0, 1) := by decide +kernel
theorem dX13_registerOf_54 : decode cX13_registerOf 54 = .ok (.iadd, 1) := by decide +kernel
theorem dX13_registerOf_55 : decode cX13_registerOf 55 = .ok (.bipush 48, 2) := by decide +kernel
theorem dX13_registerOf_57 : decode cX13_registerOf 57 = .ok (.isub, 1) := by decide +kernel
theorem dX13_registerOf_58 : decode cX13_registerOf 58 = .ok (.goto 37, 3) := by decide +kernel
theorem dX13_registerOf_61 : decode cX13_registerOf 61 = .ok (.iload_n 0, 1) := by decide +kernel
theorem dX13_registerOf_62 : decode cX13_registerOf 62 = .ok (.bipush 45, 2) := by decide +kernel
theorem dX13_registerOf_64 : decode cX13_registerOf 64 = .ok (.if_icmp .ne 8, 3) := by decide +kernel
theorem dX13_registerOf_67 : decode cX13_registerOf 67 = .ok (.bipush 36, 2) := by decide +kernel
theorem dX13_registerOf_69 : decode cX13_registerOf 69 = .ok (.goto 26, 3) := by decide +kernel
theorem dX13_registerOf_72 : decode cX13_registerOf 72 = .ok (.iload_n 0, 1) := by decide +kernel
theorem dX13_registerOf_73 : decode cX13_registerOf 73 = .ok (.bipush 34, 2) := by decide +kernel
theorem dX13_registerOf_75 : decode cX13_registerOf 75 = .ok (.if_icmp .ne 8, 3) := by decide +kernel
theorem dX13_registerOf_78 : decode cX13_registerOf 78 = .ok (.bipush 37, 2) := by decide +kernel
theorem dX13_registerOf_80 : decode cX13_registerOf 80 = .ok (.goto 15, 3) := by decide +kernel
theorem dX13_registerOf_83 : decode cX13_registerOf 83 = .ok (.iload_n 0, 1) := by decide +kernel
theorem dX13_registerOf_84 : decode cX13_registerOf 84 = .ok (.bipush 95, 2) := by decide +kernel
theorem dX13_registerOf_86 : decode cX13_registerOf 86 = .ok (.if_icmp .ne 8, 3) := by decide +kernel
theorem dX13_registerOf_89 : decode cX13_registerOf 89 = .ok (.bipush 38, 2) := by decide +kernel
theorem dX13_registerOf_91 : decode cX13_registerOf 91 = .ok (.goto 4, 3) := by decide +kernel
theorem dX13_registerOf_94 : decode cX13_registerOf 94 = .ok (.iconst (-1), 1) := by decide +kernel
theorem dX13_registerOf_95 : decode cX13_registerOf 95 = .ok (.ireturn, 1) := by decide +kernel
theorem dX13_segmentEnd_0 : decode cX13_segmentEnd 0 = .ok (.aload_n 0, 1) := by decide +kernel
theorem dX13_segmentEnd_1 : decode cX13_segmentEnd 1 = .ok (.getfield 407, 3) := by decide +kernel
theorem dX13_segmentEnd_4 : decode cX13_segmentEnd 4 = .ok (.aload_n 0, 1) := by decide +kernel
theorem dX13_segmentEnd_5 : decode cX13_segmentEnd 5 = .ok (.getfield 17, 3) := by decide +kernel
theorem dX13_segmentEnd_8 : decode cX13_segmentEnd 8 = .ok (.iload_n 1, 1) := by decide +kernel
theorem dX13_segmentEnd_9 : decode cX13_segmentEnd 9 = .ok (.iaload, 1) := by decide +kernel
theorem dX13_segmentEnd_10 : decode cX13_segmentEnd 10 = .ok (.invokestatic 257, 3) := by decide +kernel
theorem dX13_segmentEnd_13 : decode cX13_segmentEnd 13 = .ok (.ireturn, 1) := by decide +kernel
theorem dX13_copies_0 : decode cX13_copies 0 = .ok (.iload_n 2, 1) := by decide +kernel
theorem dX13_copies_1 : decode cX13_copies 1 = .ok (.istore 5, 2) := by decide +kernel
theorem dX13_copies_3 : decode cX13_copies 3 = .ok (.iload 5, 2) := by decide +kernel
theorem dX13_copies_5 : decode cX13_copies 5 = .ok (.iload_n 3, 1) := by decide +kernel
theorem dX13_copies_6 : decode cX13_copies 6 = .ok (.if_icmp .ge 35, 3) := by decide +kernel
theorem dX13_copies_9 : decode cX13_copies 9 = .ok (.aload_n 0, 1) := by decide +kernel
theorem dX13_copies_10 : decode cX13_copies 10 = .ok (.getfield 80, 3) := by decide +kernel
theorem dX13_copies_13 : decode cX13_copies 13 = .ok (.aload_n 0, 1) := by decide +kernel
theorem dX13_copies_14 : decode cX13_copies 14 = .ok (.getfield 441, 3) := by decide +kernel
theorem dX13_copies_17 : decode cX13_copies 17 = .ok (.aload_n 0, 1) := by decide +kernel
theorem dX13_copies_18 : decode cX13_copies 18 = .ok (.iload_n 1, 1) := by decide +kernel
theorem dX13_copies_19 : decode cX13_copies 19 = .ok (.iload 5, 2) := by decide +kernel
theorem dX13_copies_21 : decode cX13_copies 21 = .ok (.invokevirtual 206, 3) := by decide +kernel
theorem dX13_copies_24 : decode cX13_copies 24 = .ok (.iastore, 1) := by decide +kernel
theorem dX13_copies_25 : decode cX13_copies 25 = .ok (.aload_n 0, 1) := by decide +kernel
theorem dX13_copies_26 : decode cX13_copies 26 = .ok (.dup, 1) := by decide +kernel
theorem dX13_copies_27 : decode cX13_copies 27 = .ok (.getfield 441, 3) := by decide +kernel
theorem dX13_copies_30 : decode cX13_copies 30 = .ok (.iconst 1, 1) := by decide +kernel
theorem dX13_copies_31 : decode cX13_copies 31 = .ok (.iadd, 1) := by decide +kernel
theorem dX13_copies_32 : decode cX13_copies 32 = .ok (.putfield 441, 3) := by decide +kernel
theorem dX13_copies_35 : decode cX13_copies 35 = .ok (.iinc 5 1, 3) := by decide +kernel
theorem dX13_copies_38 : decode cX13_copies 38 = .ok (.goto (-35), 3) := by decide +kernel
theorem dX13_copies_41 : decode cX13_copies 41 = .ok (.iload 4, 2) := by decide +kernel
theorem dX13_copies_43 : decode cX13_copies 43 = .ok (.ifCond .eq 24, 3) := by decide +kernel
theorem dX13_copies_46 : decode cX13_copies 46 = .ok (.aload_n 0, 1) := by decide +kernel
theorem dX13_copies_47 : decode cX13_copies 47 = .ok (.getfield 80, 3) := by decide +kernel
theorem dX13_copies_50 : decode cX13_copies 50 = .ok (.aload_n 0, 1) := by decide +kernel
theorem dX13_copies_51 : decode cX13_copies 51 = .ok (.getfield 441, 3) := by decide +kernel
theorem dX13_copies_54 : decode cX13_copies 54 = .ok (.bipush 10, 2) := by decide +kernel
theorem dX13_copies_56 : decode cX13_copies 56 = .ok (.iastore, 1) := by decide +kernel
theorem dX13_copies_57 : decode cX13_copies 57 = .ok (.aload_n 0, 1) := by decide +kernel
theorem dX13_copies_58 : decode cX13_copies 58 = .ok (.dup, 1) := by decide +kernel
theorem dX13_copies_59 : decode cX13_copies 59 = .ok (.getfield 441, 3) := by decide +kernel
theorem dX13_copies_62 : decode cX13_copies 62 = .ok (.iconst 1, 1) := by decide +kernel
theorem dX13_copies_63 : decode cX13_copies 63 = .ok (.iadd, 1) := by decide +kernel
theorem dX13_copies_64 : decode cX13_copies 64 = .ok (.putfield 441, 3) := by decide +kernel
theorem dX13_copies_67 : decode cX13_copies 67 = .ok (.return_, 1) := by decide +kernel
theorem dX13_copiesSpan_0 : decode cX13_copiesSpan 0 = .ok (.aload_n 0, 1) := by decide +kernel
theorem dX13_copiesSpan_1 : decode cX13_copiesSpan 1 = .ok (.iconst 0, 1) := by decide +kernel
theorem dX13_copiesSpan_2 : decode cX13_copiesSpan 2 = .ok (.putfield 441, 3) := by decide +kernel
theorem dX13_copiesSpan_5 : decode cX13_copiesSpan 5 = .ok (.aload_n 0, 1) := by decide +kernel
theorem dX13_copiesSpan_6 : decode cX13_copiesSpan 6 = .ok (.getfield 398, 3) := by decide +kernel
theorem dX13_copiesSpan_9 : decode cX13_copiesSpan 9 = .ok (.istore_n 1, 1) := by decide +kernel
theorem dX13_copiesSpan_10 : decode cX13_copiesSpan 10 = .ok (.iload_n 1, 1) := by decide +kernel
theorem dX13_copiesSpan_11 : decode cX13_copiesSpan 11 = .ok (.aload_n 0, 1) := by decide +kernel
theorem dX13_copiesSpan_12 : decode cX13_copiesSpan 12 = .ok (.getfield 404, 3) := by decide +kernel
theorem dX13_copiesSpan_15 : decode cX13_copiesSpan 15 = .ok (.if_icmp .gt 114, 3) := by decide +kernel
theorem dX13_copiesSpan_18 : decode cX13_copiesSpan 18 = .ok (.aload_n 0, 1) := by decide +kernel
theorem dX13_copiesSpan_19 : decode cX13_copiesSpan 19 = .ok (.getfield 395, 3) := by decide +kernel
theorem dX13_copiesSpan_22 : decode cX13_copiesSpan 22 = .ok (.iconst 1, 1) := by decide +kernel
theorem dX13_copiesSpan_23 : decode cX13_copiesSpan 23 = .ok (.if_icmp .ne 61, 3) := by decide +kernel
theorem dX13_copiesSpan_26 : decode cX13_copiesSpan 26 = .ok (.aload_n 0, 1) := by decide +kernel
theorem dX13_copiesSpan_27 : decode cX13_copiesSpan 27 = .ok (.iload_n 1, 1) := by decide +kernel
theorem dX13_copiesSpan_28 : decode cX13_copiesSpan 28 = .ok (.iload_n 1, 1) := by decide +kernel
theorem dX13_copiesSpan_29 : decode cX13_copiesSpan 29 = .ok (.aload_n 0, 1) := by decide +kernel
theorem dX13_copiesSpan_30 : decode cX13_copiesSpan 30 = .ok (.getfield 398, 3) := by decide +kernel
theorem dX13_copiesSpan_33 : decode cX13_copiesSpan 33 = .ok (.if_icmp .ne 10, 3) := by decide +kernel
theorem dX13_copiesSpan_36 : decode cX13_copiesSpan 36 = .ok (.aload_n 0, 1) := by decide +kernel
theorem dX13_copiesSpan_37 : decode cX13_copiesSpan 37 = .ok (.getfield 401, 3) := by decide +kernel
theorem dX13_copiesSpan_40 : decode cX13_copiesSpan 40 = .ok (.goto 4, 3) := by decide +kernel
theorem dX13_copiesSpan_43 : decode cX13_copiesSpan 43 = .ok (.iconst 0, 1) := by decide +kernel
theorem dX13_copiesSpan_44 : decode cX13_copiesSpan 44 = .ok (.iload_n 1, 1) := by decide +kernel
theorem dX13_copiesSpan_45 : decode cX13_copiesSpan 45 = .ok (.aload_n 0, 1) := by decide +kernel
theorem dX13_copiesSpan_46 : decode cX13_copiesSpan 46 = .ok (.getfield 404, 3) := by decide +kernel
theorem dX13_copiesSpan_49 : decode cX13_copiesSpan 49 = .ok (.if_icmp .ne 10, 3) := by decide +kernel
theorem dX13_copiesSpan_52 : decode cX13_copiesSpan 52 = .ok (.aload_n 0, 1) := by decide +kernel
theorem dX13_copiesSpan_53 : decode cX13_copiesSpan 53 = .ok (.getfield 407, 3) := by decide +kernel
theorem dX13_copiesSpan_56 : decode cX13_copiesSpan 56 = .ok (.goto 9, 3) := by decide +kernel
theorem dX13_copiesSpan_59 : decode cX13_copiesSpan 59 = .ok (.aload_n 0, 1) := by decide +kernel
theorem dX13_copiesSpan_60 : decode cX13_copiesSpan 60 = .ok (.getfield 17, 3) := by decide +kernel
theorem dX13_copiesSpan_63 : decode cX13_copiesSpan 63 = .ok (.iload_n 1, 1) := by decide +kernel
theorem dX13_copiesSpan_64 : decode cX13_copiesSpan 64 = .ok (.iaload, 1) := by decide +kernel
theorem dX13_copiesSpan_65 : decode cX13_copiesSpan 65 = .ok (.iload_n 1, 1) := by decide +kernel
theorem dX13_copiesSpan_66 : decode cX13_copiesSpan 66 = .ok (.aload_n 0, 1) := by decide +kernel
theorem dX13_copiesSpan_67 : decode cX13_copiesSpan 67 = .ok (.getfield 404, 3) := by decide +kernel
theorem dX13_copiesSpan_70 : decode cX13_copiesSpan 70 = .ok (.if_icmp .ge 7, 3) := by decide +kernel
theorem dX13_copiesSpan_73 : decode cX13_copiesSpan 73 = .ok (.iconst 1, 1) := by decide +kernel
theorem dX13_copiesSpan_74 : decode cX13_copiesSpan 74 = .ok (.goto 4, 3) := by decide +kernel
theorem dX13_copiesSpan_77 : decode cX13_copiesSpan 77 = .ok (.iconst 0, 1) := by decide +kernel
theorem dX13_copiesSpan_78 : decode cX13_copiesSpan 78 = .ok (.invokevirtual 444, 3) := by decide +kernel
theorem dX13_copiesSpan_81 : decode cX13_copiesSpan 81 = .ok (.goto 42, 3) := by decide +kernel
theorem dX13_copiesSpan_84 : decode cX13_copiesSpan 84 = .ok (.aload_n 0, 1) := by decide +kernel
theorem dX13_copiesSpan_85 : decode cX13_copiesSpan 85 = .ok (.getfield 395, 3) := by decide +kernel
theorem dX13_copiesSpan_88 : decode cX13_copiesSpan 88 = .ok (.iconst 2, 1) := by decide +kernel
theorem dX13_copiesSpan_89 : decode cX13_copiesSpan 89 = .ok (.if_icmp .ne 19, 3) := by decide +kernel
theorem dX13_copiesSpan_92 : decode cX13_copiesSpan 92 = .ok (.aload_n 0, 1) := by decide +kernel
theorem dX13_copiesSpan_93 : decode cX13_copiesSpan 93 = .ok (.iload_n 1, 1) := by decide +kernel
theorem dX13_copiesSpan_94 : decode cX13_copiesSpan 94 = .ok (.iconst 0, 1) := by decide +kernel
theorem dX13_copiesSpan_95 : decode cX13_copiesSpan 95 = .ok (.aload_n 0, 1) := by decide +kernel
theorem dX13_copiesSpan_96 : decode cX13_copiesSpan 96 = .ok (.getfield 17, 3) := by decide +kernel
theorem dX13_copiesSpan_99 : decode cX13_copiesSpan 99 = .ok (.iload_n 1, 1) := by decide +kernel
theorem dX13_copiesSpan_100 : decode cX13_copiesSpan 100 = .ok (.iaload, 1) := by decide +kernel
theorem dX13_copiesSpan_101 : decode cX13_copiesSpan 101 = .ok (.iconst 1, 1) := by decide +kernel
theorem dX13_copiesSpan_102 : decode cX13_copiesSpan 102 = .ok (.invokevirtual 444, 3) := by decide +kernel
theorem dX13_copiesSpan_105 : decode cX13_copiesSpan 105 = .ok (.goto 18, 3) := by decide +kernel
theorem dX13_copiesSpan_108 : decode cX13_copiesSpan 108 = .ok (.aload_n 0, 1) := by decide +kernel
theorem dX13_copiesSpan_109 : decode cX13_copiesSpan 109 = .ok (.iload_n 1, 1) := by decide +kernel
theorem dX13_copiesSpan_110 : decode cX13_copiesSpan 110 = .ok (.aload_n 0, 1) := by decide +kernel
theorem dX13_copiesSpan_111 : decode cX13_copiesSpan 111 = .ok (.getfield 401, 3) := by decide +kernel
theorem dX13_copiesSpan_114 : decode cX13_copiesSpan 114 = .ok (.aload_n 0, 1) := by decide +kernel
theorem dX13_copiesSpan_115 : decode cX13_copiesSpan 115 = .ok (.iload_n 1, 1) := by decide +kernel
theorem dX13_copiesSpan_116 : decode cX13_copiesSpan 116 = .ok (.invokevirtual 448, 3) := by decide +kernel
theorem dX13_copiesSpan_119 : decode cX13_copiesSpan 119 = .ok (.iconst 1, 1) := by decide +kernel
theorem dX13_copiesSpan_120 : decode cX13_copiesSpan 120 = .ok (.invokevirtual 444, 3) := by decide +kernel
theorem dX13_copiesSpan_123 : decode cX13_copiesSpan 123 = .ok (.iinc 1 1, 3) := by decide +kernel
theorem dX13_copiesSpan_126 : decode cX13_copiesSpan 126 = .ok (.goto (-116), 3) := by decide +kernel
theorem dX13_copiesSpan_129 : decode cX13_copiesSpan 129 = .ok (.return_, 1) := by decide +kernel
theorem dX13_setsRegister_0 : decode cX13_setsRegister 0 = .ok (.aload_n 0, 1) := by decide +kernel
theorem dX13_setsRegister_1 : decode cX13_setsRegister 1 = .ok (.getfield 23, 3) := by decide +kernel
theorem dX13_setsRegister_4 : decode cX13_setsRegister 4 = .ok (.iload_n 1, 1) := by decide +kernel
theorem dX13_setsRegister_5 : decode cX13_setsRegister 5 = .ok (.aload_n 0, 1) := by decide +kernel
theorem dX13_setsRegister_6 : decode cX13_setsRegister 6 = .ok (.getfield 395, 3) := by decide +kernel
theorem dX13_setsRegister_9 : decode cX13_setsRegister 9 = .ok (.iastore, 1) := by decide +kernel
theorem dX13_setsRegister_10 : decode cX13_setsRegister 10 = .ok (.aload_n 0, 1) := by decide +kernel
theorem dX13_setsRegister_11 : decode cX13_setsRegister 11 = .ok (.getfield 26, 3) := by decide +kernel
theorem dX13_setsRegister_14 : decode cX13_setsRegister 14 = .ok (.iload_n 1, 1) := by decide +kernel
theorem dX13_setsRegister_15 : decode cX13_setsRegister 15 = .ok (.aload_n 0, 1) := by decide +kernel
theorem dX13_setsRegister_16 : decode cX13_setsRegister 16 = .ok (.getfield 441, 3) := by decide +kernel
theorem dX13_setsRegister_19 : decode cX13_setsRegister 19 = .ok (.iastore, 1) := by decide +kernel
theorem dX13_setsRegister_20 : decode cX13_setsRegister 20 = .ok (.iconst 0, 1) := by decide +kernel
theorem dX13_setsRegister_21 : decode cX13_setsRegister 21 = .ok (.istore_n 2, 1) := by decide +kernel
theorem dX13_setsRegister_22 : decode cX13_setsRegister 22 = .ok (.iload_n 2, 1) := by decide +kernel
theorem dX13_setsRegister_23 : decode cX13_setsRegister 23 = .ok (.aload_n 0, 1) := by decide +kernel
theorem dX13_setsRegister_24 : decode cX13_setsRegister 24 = .ok (.getfield 441, 3) := by decide +kernel
theorem dX13_setsRegister_27 : decode cX13_setsRegister 27 = .ok (.if_icmp .ge 27, 3) := by decide +kernel
theorem dX13_setsRegister_30 : decode cX13_setsRegister 30 = .ok (.aload_n 0, 1) := by decide +kernel
theorem dX13_setsRegister_31 : decode cX13_setsRegister 31 = .ok (.getfield 30, 3) := by decide +kernel
theorem dX13_setsRegister_34 : decode cX13_setsRegister 34 = .ok (.sipush 3000, 3) := by decide +kernel
theorem dX13_setsRegister_37 : decode cX13_setsRegister 37 = .ok (.iload_n 1, 1) := by decide +kernel
theorem dX13_setsRegister_38 : decode cX13_setsRegister 38 = .ok (.imul, 1) := by decide +kernel
theorem dX13_setsRegister_39 : decode cX13_setsRegister 39 = .ok (.iload_n 2, 1) := by decide +kernel
theorem dX13_setsRegister_40 : decode cX13_setsRegister 40 = .ok (.iadd, 1) := by decide +kernel
theorem dX13_setsRegister_41 : decode cX13_setsRegister 41 = .ok (.aload_n 0, 1) := by decide +kernel
theorem dX13_setsRegister_42 : decode cX13_setsRegister 42 = .ok (.getfield 80, 3) := by decide +kernel
theorem dX13_setsRegister_45 : decode cX13_setsRegister 45 = .ok (.iload_n 2, 1) := by decide +kernel
theorem dX13_setsRegister_46 : decode cX13_setsRegister 46 = .ok (.iaload, 1) := by decide +kernel
theorem dX13_setsRegister_47 : decode cX13_setsRegister 47 = .ok (.iastore, 1) := by decide +kernel
theorem dX13_setsRegister_48 : decode cX13_setsRegister 48 = .ok (.iinc 2 1, 3) := by decide +kernel
theorem dX13_setsRegister_51 : decode cX13_setsRegister 51 = .ok (.goto (-29), 3) := by decide +kernel
theorem dX13_setsRegister_54 : decode cX13_setsRegister 54 = .ok (.return_, 1) := by decide +kernel
theorem dX13_addsCode_0 : decode cX13_addsCode 0 = .ok (.aload_n 0, 1) := by decide +kernel
theorem dX13_addsCode_1 : decode cX13_addsCode 1 = .ok (.getfield 30, 3) := by decide +kernel
theorem dX13_addsCode_4 : decode cX13_addsCode 4 = .ok (.sipush 3000, 3) := by decide +kernel
theorem dX13_addsCode_7 : decode cX13_addsCode 7 = .ok (.iload_n 1, 1) := by decide +kernel
theorem dX13_addsCode_8 : decode cX13_addsCode 8 = .ok (.imul, 1) := by decide +kernel
theorem dX13_addsCode_9 : decode cX13_addsCode 9 = .ok (.aload_n 0, 1) := by decide +kernel
theorem dX13_addsCode_10 : decode cX13_addsCode 10 = .ok (.getfield 26, 3) := by decide +kernel
theorem dX13_addsCode_13 : decode cX13_addsCode 13 = .ok (.iload_n 1, 1) := by decide +kernel
theorem dX13_addsCode_14 : decode cX13_addsCode 14 = .ok (.iaload, 1) := by decide +kernel
theorem dX13_addsCode_15 : decode cX13_addsCode 15 = .ok (.iadd, 1) := by decide +kernel
theorem dX13_addsCode_16 : decode cX13_addsCode 16 = .ok (.iload_n 2, 1) := by decide +kernel
theorem dX13_addsCode_17 : decode cX13_addsCode 17 = .ok (.iastore, 1) := by decide +kernel
theorem dX13_addsCode_18 : decode cX13_addsCode 18 = .ok (.aload_n 0, 1) := by decide +kernel
theorem dX13_addsCode_19 : decode cX13_addsCode 19 = .ok (.getfield 26, 3) := by decide +kernel
theorem dX13_addsCode_22 : decode cX13_addsCode 22 = .ok (.iload_n 1, 1) := by decide +kernel
theorem dX13_addsCode_23 : decode cX13_addsCode 23 = .ok (.dup2, 1) := by decide +kernel
theorem dX13_addsCode_24 : decode cX13_addsCode 24 = .ok (.iaload, 1) := by decide +kernel
theorem dX13_addsCode_25 : decode cX13_addsCode 25 = .ok (.iconst 1, 1) := by decide +kernel
theorem dX13_addsCode_26 : decode cX13_addsCode 26 = .ok (.iadd, 1) := by decide +kernel
theorem dX13_addsCode_27 : decode cX13_addsCode 27 = .ok (.iastore, 1) := by decide +kernel
theorem dX13_addsCode_28 : decode cX13_addsCode 28 = .ok (.return_, 1) := by decide +kernel
theorem dX13_addsRegister_0 : decode cX13_addsRegister 0 = .ok (.aload_n 0, 1) := by decide +kernel
theorem dX13_addsRegister_1 : decode cX13_addsRegister 1 = .ok (.getfield 23, 3) := by decide +kernel
theorem dX13_addsRegister_4 : decode cX13_addsRegister 4 = .ok (.iload_n 1, 1) := by decide +kernel
theorem dX13_addsRegister_5 : decode cX13_addsRegister 5 = .ok (.iaload, 1) := by decide +kernel
theorem dX13_addsRegister_6 : decode cX13_addsRegister 6 = .ok (.ifCond .ne 9, 3) := by decide +kernel
theorem dX13_addsRegister_9 : decode cX13_addsRegister 9 = .ok (.aload_n 0, 1) := by decide +kernel
theorem dX13_addsRegister_10 : decode cX13_addsRegister 10 = .ok (.iload_n 1, 1) := by decide +kernel
theorem dX13_addsRegister_11 : decode cX13_addsRegister 11 = .ok (.invokevirtual 451, 3) := by decide +kernel
theorem dX13_addsRegister_14 : decode cX13_addsRegister 14 = .ok (.return_, 1) := by decide +kernel
theorem dX13_addsRegister_15 : decode cX13_addsRegister 15 = .ok (.aload_n 0, 1) := by decide +kernel
theorem dX13_addsRegister_16 : decode cX13_addsRegister 16 = .ok (.getfield 23, 3) := by decide +kernel
theorem dX13_addsRegister_19 : decode cX13_addsRegister 19 = .ok (.iload_n 1, 1) := by decide +kernel
theorem dX13_addsRegister_20 : decode cX13_addsRegister 20 = .ok (.iaload, 1) := by decide +kernel
theorem dX13_addsRegister_21 : decode cX13_addsRegister 21 = .ok (.iconst 1, 1) := by decide +kernel
theorem dX13_addsRegister_22 : decode cX13_addsRegister 22 = .ok (.if_icmp .ne 11, 3) := by decide +kernel
theorem dX13_addsRegister_25 : decode cX13_addsRegister 25 = .ok (.aload_n 0, 1) := by decide +kernel
theorem dX13_addsRegister_26 : decode cX13_addsRegister 26 = .ok (.getfield 395, 3) := by decide +kernel
theorem dX13_addsRegister_29 : decode cX13_addsRegister 29 = .ok (.iconst 1, 1) := by decide +kernel
theorem dX13_addsRegister_30 : decode cX13_addsRegister 30 = .ok (.if_icmp .eq 7, 3) := by decide +kernel
theorem dX13_addsRegister_33 : decode cX13_addsRegister 33 = .ok (.iconst 1, 1) := by decide +kernel
theorem dX13_addsRegister_34 : decode cX13_addsRegister 34 = .ok (.goto 4, 3) := by decide +kernel
theorem dX13_addsRegister_37 : decode cX13_addsRegister 37 = .ok (.iconst 0, 1) := by decide +kernel
theorem dX13_addsRegister_38 : decode cX13_addsRegister 38 = .ok (.istore_n 2, 1) := by decide +kernel
theorem dX13_addsRegister_39 : decode cX13_addsRegister 39 = .ok (.iload_n 2, 1) := by decide +kernel
theorem dX13_addsRegister_40 : decode cX13_addsRegister 40 = .ok (.ifCond .eq 20, 3) := by decide +kernel
theorem dX13_addsRegister_43 : decode cX13_addsRegister 43 = .ok (.aload_n 0, 1) := by decide +kernel
theorem dX13_addsRegister_44 : decode cX13_addsRegister 44 = .ok (.getfield 23, 3) := by decide +kernel
theorem dX13_addsRegister_47 : decode cX13_addsRegister 47 = .ok (.iload_n 1, 1) := by decide +kernel
theorem dX13_addsRegister_48 : decode cX13_addsRegister 48 = .ok (.iaload, 1) := by decide +kernel
theorem dX13_addsRegister_49 : decode cX13_addsRegister 49 = .ok (.iconst 1, 1) := by decide +kernel
theorem dX13_addsRegister_50 : decode cX13_addsRegister 50 = .ok (.if_icmp .ne 10, 3) := by decide +kernel
theorem dX13_addsRegister_53 : decode cX13_addsRegister 53 = .ok (.aload_n 0, 1) := by decide +kernel
theorem dX13_addsRegister_54 : decode cX13_addsRegister 54 = .ok (.iload_n 1, 1) := by decide +kernel
theorem dX13_addsRegister_55 : decode cX13_addsRegister 55 = .ok (.bipush 10, 2) := by decide +kernel
theorem dX13_addsRegister_57 : decode cX13_addsRegister 57 = .ok (.invokevirtual 454, 3) := by decide +kernel
theorem dX13_addsRegister_60 : decode cX13_addsRegister 60 = .ok (.iconst 0, 1) := by decide +kernel
theorem dX13_addsRegister_61 : decode cX13_addsRegister 61 = .ok (.istore_n 3, 1) := by decide +kernel
theorem dX13_addsRegister_62 : decode cX13_addsRegister 62 = .ok (.iload_n 3, 1) := by decide +kernel
theorem dX13_addsRegister_63 : decode cX13_addsRegister 63 = .ok (.aload_n 0, 1) := by decide +kernel
theorem dX13_addsRegister_64 : decode cX13_addsRegister 64 = .ok (.getfield 441, 3) := by decide +kernel
theorem dX13_addsRegister_67 : decode cX13_addsRegister 67 = .ok (.if_icmp .ge 20, 3) := by decide +kernel
theorem dX13_addsRegister_70 : decode cX13_addsRegister 70 = .ok (.aload_n 0, 1) := by decide +kernel
theorem dX13_addsRegister_71 : decode cX13_addsRegister 71 = .ok (.iload_n 1, 1) := by decide +kernel
theorem dX13_addsRegister_72 : decode cX13_addsRegister 72 = .ok (.aload_n 0, 1) := by decide +kernel
theorem dX13_addsRegister_73 : decode cX13_addsRegister 73 = .ok (.getfield 80, 3) := by decide +kernel
theorem dX13_addsRegister_76 : decode cX13_addsRegister 76 = .ok (.iload_n 3, 1) := by decide +kernel
theorem dX13_addsRegister_77 : decode cX13_addsRegister 77 = .ok (.iaload, 1) := by decide +kernel
theorem dX13_addsRegister_78 : decode cX13_addsRegister 78 = .ok (.invokevirtual 454, 3) := by decide +kernel
theorem dX13_addsRegister_81 : decode cX13_addsRegister 81 = .ok (.iinc 3 1, 3) := by decide +kernel
theorem dX13_addsRegister_84 : decode cX13_addsRegister 84 = .ok (.goto (-22), 3) := by decide +kernel
theorem dX13_addsRegister_87 : decode cX13_addsRegister 87 = .ok (.iload_n 2, 1) := by decide +kernel
theorem dX13_addsRegister_88 : decode cX13_addsRegister 88 = .ok (.ifCond .eq 18, 3) := by decide +kernel
theorem dX13_addsRegister_91 : decode cX13_addsRegister 91 = .ok (.aload_n 0, 1) := by decide +kernel
theorem dX13_addsRegister_92 : decode cX13_addsRegister 92 = .ok (.getfield 395, 3) := by decide +kernel
theorem dX13_addsRegister_95 : decode cX13_addsRegister 95 = .ok (.iconst 1, 1) := by decide +kernel
theorem dX13_addsRegister_96 : decode cX13_addsRegister 96 = .ok (.if_icmp .ne 10, 3) := by decide +kernel
theorem dX13_addsRegister_99 : decode cX13_addsRegister 99 = .ok (.aload_n 0, 1) := by decide +kernel
theorem dX13_addsRegister_100 : decode cX13_addsRegister 100 = .ok (.iload_n 1, 1) := by decide +kernel
theorem dX13_addsRegister_101 : decode cX13_addsRegister 101 = .ok (.bipush 10, 2) := by decide +kernel
theorem dX13_addsRegister_103 : decode cX13_addsRegister 103 = .ok (.invokevirtual 454, 3) := by decide +kernel
theorem dX13_addsRegister_106 : decode cX13_addsRegister 106 = .ok (.aload_n 0, 1) := by decide +kernel
theorem dX13_addsRegister_107 : decode cX13_addsRegister 107 = .ok (.getfield 23, 3) := by decide +kernel
theorem dX13_addsRegister_110 : decode cX13_addsRegister 110 = .ok (.iload_n 1, 1) := by decide +kernel
theorem dX13_addsRegister_111 : decode cX13_addsRegister 111 = .ok (.iload_n 2, 1) := by decide +kernel
theorem dX13_addsRegister_112 : decode cX13_addsRegister 112 = .ok (.ifCond .eq 7, 3) := by decide +kernel
theorem dX13_addsRegister_115 : decode cX13_addsRegister 115 = .ok (.iconst 2, 1) := by decide +kernel
theorem dX13_addsRegister_116 : decode cX13_addsRegister 116 = .ok (.goto 4, 3) := by decide +kernel
theorem dX13_addsRegister_119 : decode cX13_addsRegister 119 = .ok (.iconst 1, 1) := by decide +kernel
theorem dX13_addsRegister_120 : decode cX13_addsRegister 120 = .ok (.iastore, 1) := by decide +kernel
theorem dX13_addsRegister_121 : decode cX13_addsRegister 121 = .ok (.return_, 1) := by decide +kernel
theorem dX13_fitsRegister_0 : decode cX13_fitsRegister 0 = .ok (.iload_n 1, 1) := by decide +kernel
theorem dX13_fitsRegister_1 : decode cX13_fitsRegister 1 = .ok (.invokestatic 457, 3) := by decide +kernel
theorem dX13_fitsRegister_4 : decode cX13_fitsRegister 4 = .ok (.istore_n 2, 1) := by decide +kernel
theorem dX13_fitsRegister_5 : decode cX13_fitsRegister 5 = .ok (.iload_n 1, 1) := by decide +kernel
theorem dX13_fitsRegister_6 : decode cX13_fitsRegister 6 = .ok (.bipush 65, 2) := by decide +kernel
theorem dX13_fitsRegister_8 : decode cX13_fitsRegister 8 = .ok (.bipush 90, 2) := by decide +kernel
theorem dX13_fitsRegister_10 : decode cX13_fitsRegister 10 = .ok (.invokestatic 198, 3) := by decide +kernel
theorem dX13_fitsRegister_13 : decode cX13_fitsRegister 13 = .ok (.ifCond .eq 62, 3) := by decide +kernel
theorem dX13_fitsRegister_16 : decode cX13_fitsRegister 16 = .ok (.aload_n 0, 1) := by decide +kernel
theorem dX13_fitsRegister_17 : decode cX13_fitsRegister 17 = .ok (.getfield 26, 3) := by decide +kernel
theorem dX13_fitsRegister_20 : decode cX13_fitsRegister 20 = .ok (.iload_n 2, 1) := by decide +kernel
theorem dX13_fitsRegister_21 : decode cX13_fitsRegister 21 = .ok (.iaload, 1) := by decide +kernel
theorem dX13_fitsRegister_22 : decode cX13_fitsRegister 22 = .ok (.aload_n 0, 1) := by decide +kernel
theorem dX13_fitsRegister_23 : decode cX13_fitsRegister 23 = .ok (.getfield 441, 3) := by decide +kernel
theorem dX13_fitsRegister_26 : decode cX13_fitsRegister 26 = .ok (.iadd, 1) := by decide +kernel
theorem dX13_fitsRegister_27 : decode cX13_fitsRegister 27 = .ok (.aload_n 0, 1) := by decide +kernel
theorem dX13_fitsRegister_28 : decode cX13_fitsRegister 28 = .ok (.getfield 23, 3) := by decide +kernel
theorem dX13_fitsRegister_31 : decode cX13_fitsRegister 31 = .ok (.iload_n 2, 1) := by decide +kernel
theorem dX13_fitsRegister_32 : decode cX13_fitsRegister 32 = .ok (.iaload, 1) := by decide +kernel
theorem dX13_fitsRegister_33 : decode cX13_fitsRegister 33 = .ok (.iconst 1, 1) := by decide +kernel
theorem dX13_fitsRegister_34 : decode cX13_fitsRegister 34 = .ok (.if_icmp .ne 11, 3) := by decide +kernel
theorem dX13_fitsRegister_37 : decode cX13_fitsRegister 37 = .ok (.aload_n 0, 1) := by decide +kernel
theorem dX13_fitsRegister_38 : decode cX13_fitsRegister 38 = .ok (.getfield 395, 3) := by decide +kernel
theorem dX13_fitsRegister_41 : decode cX13_fitsRegister 41 = .ok (.iconst 1, 1) := by decide +kernel
theorem dX13_fitsRegister_42 : decode cX13_fitsRegister 42 = .ok (.if_icmp .ne 21, 3) := by decide +kernel
theorem dX13_fitsRegister_45 : decode cX13_fitsRegister 45 = .ok (.aload_n 0, 1) := by decide +kernel
theorem dX13_fitsRegister_46 : decode cX13_fitsRegister 46 = .ok (.getfield 23, 3) := by decide +kernel
theorem dX13_fitsRegister_49 : decode cX13_fitsRegister 49 = .ok (.iload_n 2, 1) := by decide +kernel
theorem dX13_fitsRegister_50 : decode cX13_fitsRegister 50 = .ok (.iaload, 1) := by decide +kernel
theorem dX13_fitsRegister_51 : decode cX13_fitsRegister 51 = .ok (.iconst 1, 1) := by decide +kernel
theorem dX13_fitsRegister_52 : decode cX13_fitsRegister 52 = .ok (.if_icmp .le 15, 3) := by decide +kernel
theorem dX13_fitsRegister_55 : decode cX13_fitsRegister 55 = .ok (.aload_n 0, 1) := by decide +kernel
theorem dX13_fitsRegister_56 : decode cX13_fitsRegister 56 = .ok (.getfield 395, 3) := by decide +kernel
theorem dX13_fitsRegister_59 : decode cX13_fitsRegister 59 = .ok (.iconst 1, 1) := by decide +kernel
theorem dX13_fitsRegister_60 : decode cX13_fitsRegister 60 = .ok (.if_icmp .ne 7, 3) := by decide +kernel
theorem dX13_fitsRegister_63 : decode cX13_fitsRegister 63 = .ok (.iconst 1, 1) := by decide +kernel
theorem dX13_fitsRegister_64 : decode cX13_fitsRegister 64 = .ok (.goto 4, 3) := by decide +kernel
theorem dX13_fitsRegister_67 : decode cX13_fitsRegister 67 = .ok (.iconst 0, 1) := by decide +kernel
theorem dX13_fitsRegister_68 : decode cX13_fitsRegister 68 = .ok (.iadd, 1) := by decide +kernel
theorem dX13_fitsRegister_69 : decode cX13_fitsRegister 69 = .ok (.sipush 3000, 3) := by decide +kernel
theorem dX13_fitsRegister_72 : decode cX13_fitsRegister 72 = .ok (.if_icmp .gt 7, 3) := by decide +kernel
theorem dX13_fitsRegister_75 : decode cX13_fitsRegister 75 = .ok (.iconst 1, 1) := by decide +kernel
theorem dX13_fitsRegister_76 : decode cX13_fitsRegister 76 = .ok (.goto 4, 3) := by decide +kernel
theorem dX13_fitsRegister_79 : decode cX13_fitsRegister 79 = .ok (.iconst 0, 1) := by decide +kernel
theorem dX13_fitsRegister_80 : decode cX13_fitsRegister 80 = .ok (.ireturn, 1) := by decide +kernel
theorem dX13_movesRegister_0 : decode cX13_movesRegister 0 = .ok (.aload_n 0, 1) := by decide +kernel
theorem dX13_movesRegister_1 : decode cX13_movesRegister 1 = .ok (.getfield 23, 3) := by decide +kernel
theorem dX13_movesRegister_4 : decode cX13_movesRegister 4 = .ok (.iload_n 2, 1) := by decide +kernel
theorem dX13_movesRegister_5 : decode cX13_movesRegister 5 = .ok (.aload_n 0, 1) := by decide +kernel
theorem dX13_movesRegister_6 : decode cX13_movesRegister 6 = .ok (.getfield 23, 3) := by decide +kernel
theorem dX13_movesRegister_9 : decode cX13_movesRegister 9 = .ok (.iload_n 1, 1) := by decide +kernel
theorem dX13_movesRegister_10 : decode cX13_movesRegister 10 = .ok (.iaload, 1) := by decide +kernel
theorem dX13_movesRegister_11 : decode cX13_movesRegister 11 = .ok (.iastore, 1) := by decide +kernel
theorem dX13_movesRegister_12 : decode cX13_movesRegister 12 = .ok (.aload_n 0, 1) := by decide +kernel
theorem dX13_movesRegister_13 : decode cX13_movesRegister 13 = .ok (.getfield 26, 3) := by decide +kernel
theorem dX13_movesRegister_16 : decode cX13_movesRegister 16 = .ok (.iload_n 2, 1) := by decide +kernel
theorem dX13_movesRegister_17 : decode cX13_movesRegister 17 = .ok (.aload_n 0, 1) := by decide +kernel
theorem dX13_movesRegister_18 : decode cX13_movesRegister 18 = .ok (.getfield 26, 3) := by decide +kernel
theorem dX13_movesRegister_21 : decode cX13_movesRegister 21 = .ok (.iload_n 1, 1) := by decide +kernel
theorem dX13_movesRegister_22 : decode cX13_movesRegister 22 = .ok (.iaload, 1) := by decide +kernel
theorem dX13_movesRegister_23 : decode cX13_movesRegister 23 = .ok (.iastore, 1) := by decide +kernel
theorem dX13_movesRegister_24 : decode cX13_movesRegister 24 = .ok (.iconst 0, 1) := by decide +kernel
theorem dX13_movesRegister_25 : decode cX13_movesRegister 25 = .ok (.istore_n 3, 1) := by decide +kernel
theorem dX13_movesRegister_26 : decode cX13_movesRegister 26 = .ok (.iload_n 3, 1) := by decide +kernel
theorem dX13_movesRegister_27 : decode cX13_movesRegister 27 = .ok (.aload_n 0, 1) := by decide +kernel
theorem dX13_movesRegister_28 : decode cX13_movesRegister 28 = .ok (.getfield 26, 3) := by decide +kernel
theorem dX13_movesRegister_31 : decode cX13_movesRegister 31 = .ok (.iload_n 1, 1) := by decide +kernel
theorem dX13_movesRegister_32 : decode cX13_movesRegister 32 = .ok (.iaload, 1) := by decide +kernel
theorem dX13_movesRegister_33 : decode cX13_movesRegister 33 = .ok (.if_icmp .ge 33, 3) := by decide +kernel
theorem dX13_movesRegister_36 : decode cX13_movesRegister 36 = .ok (.aload_n 0, 1) := by decide +kernel
theorem dX13_movesRegister_37 : decode cX13_movesRegister 37 = .ok (.getfield 30, 3) := by decide +kernel
theorem dX13_movesRegister_40 : decode cX13_movesRegister 40 = .ok (.sipush 3000, 3) := by decide +kernel
theorem dX13_movesRegister_43 : decode cX13_movesRegister 43 = .ok (.iload_n 2, 1) := by decide +kernel
theorem dX13_movesRegister_44 : decode cX13_movesRegister 44 = .ok (.imul, 1) := by decide +kernel
theorem dX13_movesRegister_45 : decode cX13_movesRegister 45 = .ok (.iload_n 3, 1) := by decide +kernel
theorem dX13_movesRegister_46 : decode cX13_movesRegister 46 = .ok (.iadd, 1) := by decide +kernel
theorem dX13_movesRegister_47 : decode cX13_movesRegister 47 = .ok (.aload_n 0, 1) := by decide +kernel
theorem dX13_movesRegister_48 : decode cX13_movesRegister 48 = .ok (.getfield 30, 3) := by decide +kernel
theorem dX13_movesRegister_51 : decode cX13_movesRegister 51 = .ok (.sipush 3000, 3) := by decide +kernel
theorem dX13_movesRegister_54 : decode cX13_movesRegister 54 = .ok (.iload_n 1, 1) := by decide +kernel
theorem dX13_movesRegister_55 : decode cX13_movesRegister 55 = .ok (.imul, 1) := by decide +kernel
theorem dX13_movesRegister_56 : decode cX13_movesRegister 56 = .ok (.iload_n 3, 1) := by decide +kernel
theorem dX13_movesRegister_57 : decode cX13_movesRegister 57 = .ok (.iadd, 1) := by decide +kernel
theorem dX13_movesRegister_58 : decode cX13_movesRegister 58 = .ok (.iaload, 1) := by decide +kernel
theorem dX13_movesRegister_59 : decode cX13_movesRegister 59 = .ok (.iastore, 1) := by decide +kernel
theorem dX13_movesRegister_60 : decode cX13_movesRegister 60 = .ok (.iinc 3 1, 3) := by decide +kernel
theorem dX13_movesRegister_63 : decode cX13_movesRegister 63 = .ok (.goto (-37), 3) := by decide +kernel
theorem dX13_movesRegister_66 : decode cX13_movesRegister 66 = .ok (.return_, 1) := by decide +kernel
theorem dX13_writes_0 : decode cX13_writes 0 = .ok (.iload_n 1, 1) := by decide +kernel
theorem dX13_writes_1 : decode cX13_writes 1 = .ok (.bipush 95, 2) := by decide +kernel
theorem dX13_writes_3 : decode cX13_writes 3 = .ok (.if_icmp .ne 4, 3) := by decide +kernel
theorem dX13_writes_6 : decode cX13_writes 6 = .ok (.return_, 1) := by decide +kernel
theorem dX13_writes_7 : decode cX13_writes 7 = .ok (.aload_n 0, 1) := by decide +kernel
theorem dX13_writes_8 : decode cX13_writes 8 = .ok (.bipush 37, 2) := by decide +kernel
theorem dX13_writes_10 : decode cX13_writes 10 = .ok (.invokevirtual 451, 3) := by decide +kernel
theorem dX13_writes_13 : decode cX13_writes 13 = .ok (.iload_n 1, 1) := by decide +kernel
theorem dX13_writes_14 : decode cX13_writes 14 = .ok (.bipush 65, 2) := by decide +kernel
theorem dX13_writes_16 : decode cX13_writes 16 = .ok (.bipush 90, 2) := by decide +kernel
theorem dX13_writes_18 : decode cX13_writes 18 = .ok (.invokestatic 198, 3) := by decide +kernel
theorem dX13_writes_21 : decode cX13_writes 21 = .ok (.ifCond .eq 14, 3) := by decide +kernel
theorem dX13_writes_24 : decode cX13_writes 24 = .ok (.aload_n 0, 1) := by decide +kernel
theorem dX13_writes_25 : decode cX13_writes 25 = .ok (.iload_n 1, 1) := by decide +kernel
theorem dX13_writes_26 : decode cX13_writes 26 = .ok (.invokestatic 457, 3) := by decide +kernel
theorem dX13_writes_29 : decode cX13_writes 29 = .ok (.invokevirtual 460, 3) := by decide +kernel
theorem dX13_writes_32 : decode cX13_writes 32 = .ok (.goto 99, 3) := by decide +kernel
theorem dX13_writes_35 : decode cX13_writes 35 = .ok (.iload_n 1, 1) := by decide +kernel
theorem dX13_writes_36 : decode cX13_writes 36 = .ok (.ifCond .eq 20, 3) := by decide +kernel
theorem dX13_writes_39 : decode cX13_writes 39 = .ok (.iload_n 1, 1) := by decide +kernel
theorem dX13_writes_40 : decode cX13_writes 40 = .ok (.bipush 34, 2) := by decide +kernel
theorem dX13_writes_42 : decode cX13_writes 42 = .ok (.if_icmp .eq 14, 3) := by decide +kernel
theorem dX13_writes_45 : decode cX13_writes 45 = .ok (.aload_n 0, 1) := by decide +kernel
theorem dX13_writes_46 : decode cX13_writes 46 = .ok (.iload_n 1, 1) := by decide +kernel
theorem dX13_writes_47 : decode cX13_writes 47 = .ok (.invokestatic 457, 3) := by decide +kernel
theorem dX13_writes_50 : decode cX13_writes 50 = .ok (.invokevirtual 451, 3) := by decide +kernel
theorem dX13_writes_53 : decode cX13_writes 53 = .ok (.goto 78, 3) := by decide +kernel
theorem dX13_writes_56 : decode cX13_writes 56 = .ok (.iload_n 2, 1) := by decide +kernel
theorem dX13_writes_57 : decode cX13_writes 57 = .ok (.ifCond .eq 12, 3) := by decide +kernel
theorem dX13_writes_60 : decode cX13_writes 60 = .ok (.aload_n 0, 1) := by decide +kernel
theorem dX13_writes_61 : decode cX13_writes 61 = .ok (.bipush 26, 2) := by decide +kernel
theorem dX13_writes_63 : decode cX13_writes 63 = .ok (.invokevirtual 451, 3) := by decide +kernel
theorem dX13_writes_66 : decode cX13_writes 66 = .ok (.goto 65, 3) := by decide +kernel
theorem dX13_writes_69 : decode cX13_writes 69 = .ok (.aload_n 0, 1) := by decide +kernel
theorem dX13_writes_70 : decode cX13_writes 70 = .ok (.getfield 395, 3) := by decide +kernel
theorem dX13_writes_73 : decode cX13_writes 73 = .ok (.iconst 2, 1) := by decide +kernel
theorem dX13_writes_74 : decode cX13_writes 74 = .ok (.if_icmp .eq 14, 3) := by decide +kernel
theorem dX13_writes_77 : decode cX13_writes 77 = .ok (.aload_n 0, 1) := by decide +kernel
theorem dX13_writes_78 : decode cX13_writes 78 = .ok (.getfield 404, 3) := by decide +kernel
theorem dX13_writes_81 : decode cX13_writes 81 = .ok (.aload_n 0, 1) := by decide +kernel
theorem dX13_writes_82 : decode cX13_writes 82 = .ok (.getfield 398, 3) := by decide +kernel
theorem dX13_writes_85 : decode cX13_writes 85 = .ok (.if_icmp .le 40, 3) := by decide +kernel
theorem dX13_writes_88 : decode cX13_writes 88 = .ok (.bipush 9, 2) := by decide +kernel
theorem dX13_writes_90 : decode cX13_writes 90 = .ok (.istore_n 3, 1) := by decide +kernel
theorem dX13_writes_91 : decode cX13_writes 91 = .ok (.iload_n 3, 1) := by decide +kernel
theorem dX13_writes_92 : decode cX13_writes 92 = .ok (.iconst 1, 1) := by decide +kernel
theorem dX13_writes_93 : decode cX13_writes 93 = .ok (.if_icmp .le 23, 3) := by decide +kernel
theorem dX13_writes_96 : decode cX13_writes 96 = .ok (.aload_n 0, 1) := by decide +kernel
theorem dX13_writes_97 : decode cX13_writes 97 = .ok (.bipush 26, 2) := by decide +kernel
theorem dX13_writes_99 : decode cX13_writes 99 = .ok (.iload_n 3, 1) := by decide +kernel
theorem dX13_writes_100 : decode cX13_writes 100 = .ok (.iadd, 1) := by decide +kernel
theorem dX13_writes_101 : decode cX13_writes 101 = .ok (.iconst 1, 1) := by decide +kernel
theorem dX13_writes_102 : decode cX13_writes 102 = .ok (.isub, 1) := by decide +kernel
theorem dX13_writes_103 : decode cX13_writes 103 = .ok (.bipush 26, 2) := by decide +kernel
theorem dX13_writes_105 : decode cX13_writes 105 = .ok (.iload_n 3, 1) := by decide +kernel
theorem dX13_writes_106 : decode cX13_writes 106 = .ok (.iadd, 1) := by decide +kernel
theorem dX13_writes_107 : decode cX13_writes 107 = .ok (.invokevirtual 463, 3) := by decide +kernel
theorem dX13_writes_110 : decode cX13_writes 110 = .ok (.iinc 3 (-1), 3) := by decide +kernel
theorem dX13_writes_113 : decode cX13_writes 113 = .ok (.goto (-22), 3) := by decide +kernel
theorem dX13_writes_116 : decode cX13_writes 116 = .ok (.aload_n 0, 1) := by decide +kernel
theorem dX13_writes_117 : decode cX13_writes 117 = .ok (.bipush 27, 2) := by decide +kernel
theorem dX13_writes_119 : decode cX13_writes 119 = .ok (.invokevirtual 451, 3) := by decide +kernel
theorem dX13_writes_122 : decode cX13_writes 122 = .ok (.goto 9, 3) := by decide +kernel
theorem dX13_writes_125 : decode cX13_writes 125 = .ok (.aload_n 0, 1) := by decide +kernel
theorem dX13_writes_126 : decode cX13_writes 126 = .ok (.bipush 36, 2) := by decide +kernel
theorem dX13_writes_128 : decode cX13_writes 128 = .ok (.invokevirtual 451, 3) := by decide +kernel
theorem dX13_writes_131 : decode cX13_writes 131 = .ok (.return_, 1) := by decide +kernel
theorem dX13_opensFolds_0 : decode cX13_opensFolds 0 = .ok (.iconst 0, 1) := by decide +kernel
theorem dX13_opensFolds_1 : decode cX13_opensFolds 1 = .ok (.istore_n 2, 1) := by decide +kernel
theorem dX13_opensFolds_2 : decode cX13_opensFolds 2 = .ok (.iload_n 2, 1) := by decide +kernel
theorem dX13_opensFolds_3 : decode cX13_opensFolds 3 = .ok (.sipush 1600, 3) := by decide +kernel
theorem dX13_opensFolds_6 : decode cX13_opensFolds 6 = .ok (.if_icmp .ge 53, 3) := by decide +kernel
theorem dX13_opensFolds_9 : decode cX13_opensFolds 9 = .ok (.aload_n 0, 1) := by decide +kernel
theorem dX13_opensFolds_10 : decode cX13_opensFolds 10 = .ok (.getfield 237, 3) := by decide +kernel
theorem dX13_opensFolds_13 : decode cX13_opensFolds 13 = .ok (.ifCond .le 46, 3) := by decide +kernel
theorem dX13_opensFolds_16 : decode cX13_opensFolds 16 = .ok (.iload_n 1, 1) := by decide +kernel
theorem dX13_opensFolds_17 : decode cX13_opensFolds 17 = .ok (.iload_n 2, 1) := by decide +kernel
theorem dX13_opensFolds_18 : decode cX13_opensFolds 18 = .ok (.bipush 40, 2) := by decide +kernel
theorem dX13_opensFolds_20 : decode cX13_opensFolds 20 = .ok (.idiv, 1) := by decide +kernel
theorem dX13_opensFolds_21 : decode cX13_opensFolds 21 = .ok (.iload_n 2, 1) := by decide +kernel
theorem dX13_opensFolds_22 : decode cX13_opensFolds 22 = .ok (.bipush 40, 2) := by decide +kernel
theorem dX13_opensFolds_24 : decode cX13_opensFolds 24 = .ok (.irem, 1) := by decide +kernel
theorem dX13_opensFolds_25 : decode cX13_opensFolds 25 = .ok (.invokestatic 198, 3) := by decide +kernel
theorem dX13_opensFolds_28 : decode cX13_opensFolds 28 = .ok (.ifCond .eq 25, 3) := by decide +kernel
theorem dX13_opensFolds_31 : decode cX13_opensFolds 31 = .ok (.aload_n 0, 1) := by decide +kernel
theorem dX13_opensFolds_32 : decode cX13_opensFolds 32 = .ok (.getfield 48, 3) := by decide +kernel
theorem dX13_opensFolds_35 : decode cX13_opensFolds 35 = .ok (.iload_n 2, 1) := by decide +kernel
theorem dX13_opensFolds_36 : decode cX13_opensFolds 36 = .ok (.dup2, 1) := by decide +kernel
theorem dX13_opensFolds_37 : decode cX13_opensFolds 37 = .ok (.iaload, 1) := by decide +kernel
theorem dX13_opensFolds_38 : decode cX13_opensFolds 38 = .ok (.aload_n 0, 1) := by decide +kernel
theorem dX13_opensFolds_39 : decode cX13_opensFolds 39 = .ok (.getfield 51, 3) := by decide +kernel
theorem dX13_opensFolds_42 : decode cX13_opensFolds 42 = .ok (.iload_n 2, 1) := by decide +kernel
theorem dX13_opensFolds_43 : decode cX13_opensFolds 43 = .ok (.iaload, 1) := by decide +kernel
theorem dX13_opensFolds_44 : decode cX13_opensFolds 44 = .ok (.iadd, 1) := by decide +kernel
theorem dX13_opensFolds_45 : decode cX13_opensFolds 45 = .ok (.iastore, 1) := by decide +kernel
theorem dX13_opensFolds_46 : decode cX13_opensFolds 46 = .ok (.aload_n 0, 1) := by decide +kernel
theorem dX13_opensFolds_47 : decode cX13_opensFolds 47 = .ok (.getfield 51, 3) := by decide +kernel
theorem dX13_opensFolds_50 : decode cX13_opensFolds 50 = .ok (.iload_n 2, 1) := by decide +kernel
theorem dX13_opensFolds_51 : decode cX13_opensFolds 51 = .ok (.iconst 0, 1) := by decide +kernel
theorem dX13_opensFolds_52 : decode cX13_opensFolds 52 = .ok (.iastore, 1) := by decide +kernel
theorem dX13_opensFolds_53 : decode cX13_opensFolds 53 = .ok (.iinc 2 1, 3) := by decide +kernel
theorem dX13_opensFolds_56 : decode cX13_opensFolds 56 = .ok (.goto (-54), 3) := by decide +kernel
theorem dX13_opensFolds_59 : decode cX13_opensFolds 59 = .ok (.return_, 1) := by decide +kernel
theorem dX13_inserts_0 : decode cX13_inserts 0 = .ok (.aload_n 0, 1) := by decide +kernel
theorem dX13_inserts_1 : decode cX13_inserts 1 = .ok (.iconst 1, 1) := by decide +kernel
theorem dX13_inserts_2 : decode cX13_inserts 2 = .ok (.putfield 466, 3) := by decide +kernel
theorem dX13_inserts_5 : decode cX13_inserts 5 = .ok (.aload_n 0, 1) := by decide +kernel
theorem dX13_inserts_6 : decode cX13_inserts 6 = .ok (.iload_n 1, 1) := by decide +kernel
theorem dX13_inserts_7 : decode cX13_inserts 7 = .ok (.putfield 213, 3) := by decide +kernel
theorem dX13_inserts_10 : decode cX13_inserts 10 = .ok (.aload_n 0, 1) := by decide +kernel
theorem dX13_inserts_11 : decode cX13_inserts 11 = .ok (.iload_n 2, 1) := by decide +kernel
theorem dX13_inserts_12 : decode cX13_inserts 12 = .ok (.putfield 216, 3) := by decide +kernel
theorem dX13_inserts_15 : decode cX13_inserts 15 = .ok (.aload_n 0, 1) := by decide +kernel
theorem dX13_inserts_16 : decode cX13_inserts 16 = .ok (.iload_n 2, 1) := by decide +kernel
theorem dX13_inserts_17 : decode cX13_inserts 17 = .ok (.putfield 219, 3) := by decide +kernel
theorem dX13_inserts_20 : decode cX13_inserts 20 = .ok (.aload_n 0, 1) := by decide +kernel
theorem dX13_inserts_21 : decode cX13_inserts 21 = .ok (.iload_n 1, 1) := by decide +kernel
theorem dX13_inserts_22 : decode cX13_inserts 22 = .ok (.putfield 469, 3) := by decide +kernel
theorem dX13_inserts_25 : decode cX13_inserts 25 = .ok (.aload_n 0, 1) := by decide +kernel
theorem dX13_inserts_26 : decode cX13_inserts 26 = .ok (.iload_n 2, 1) := by decide +kernel
theorem dX13_inserts_27 : decode cX13_inserts 27 = .ok (.putfield 472, 3) := by decide +kernel
theorem dX13_inserts_30 : decode cX13_inserts 30 = .ok (.aload_n 0, 1) := by decide +kernel
theorem dX13_inserts_31 : decode cX13_inserts 31 = .ok (.iload_n 3, 1) := by decide +kernel
theorem dX13_inserts_32 : decode cX13_inserts 32 = .ok (.putfield 475, 3) := by decide +kernel
theorem dX13_inserts_35 : decode cX13_inserts 35 = .ok (.aload_n 0, 1) := by decide +kernel
theorem dX13_inserts_36 : decode cX13_inserts 36 = .ok (.iload_n 1, 1) := by decide +kernel
theorem dX13_inserts_37 : decode cX13_inserts 37 = .ok (.invokevirtual 478, 3) := by decide +kernel
theorem dX13_inserts_40 : decode cX13_inserts 40 = .ok (.iconst 1, 1) := by decide +kernel
theorem dX13_inserts_41 : decode cX13_inserts 41 = .ok (.ireturn, 1) := by decide +kernel
theorem dX13_fitsTaken_0 : decode cX13_fitsTaken 0 = .ok (.aload_n 0, 1) := by decide +kernel
theorem dX13_fitsTaken_1 : decode cX13_fitsTaken 1 = .ok (.getfield 395, 3) := by decide +kernel
theorem dX13_fitsTaken_4 : decode cX13_fitsTaken 4 = .ok (.iconst 1, 1) := by decide +kernel
theorem dX13_fitsTaken_5 : decode cX13_fitsTaken 5 = .ok (.if_icmp .ne 26, 3) := by decide +kernel
theorem dX13_fitsTaken_8 : decode cX13_fitsTaken 8 = .ok (.aload_n 0, 1) := by decide +kernel
theorem dX13_fitsTaken_9 : decode cX13_fitsTaken 9 = .ok (.aload_n 0, 1) := by decide +kernel
theorem dX13_fitsTaken_10 : decode cX13_fitsTaken 10 = .ok (.getfield 398, 3) := by decide +kernel
theorem dX13_fitsTaken_13 : decode cX13_fitsTaken 13 = .ok (.aload_n 0, 1) := by decide +kernel
theorem dX13_fitsTaken_14 : decode cX13_fitsTaken 14 = .ok (.getfield 401, 3) := by decide +kernel
theorem dX13_fitsTaken_17 : decode cX13_fitsTaken 17 = .ok (.aload_n 0, 1) := by decide +kernel
theorem dX13_fitsTaken_18 : decode cX13_fitsTaken 18 = .ok (.getfield 404, 3) := by decide +kernel
theorem dX13_fitsTaken_21 : decode cX13_fitsTaken 21 = .ok (.aload_n 0, 1) := by decide +kernel
theorem dX13_fitsTaken_22 : decode cX13_fitsTaken 22 = .ok (.getfield 407, 3) := by decide +kernel
theorem dX13_fitsTaken_25 : decode cX13_fitsTaken 25 = .ok (.invokevirtual 481, 3) := by decide +kernel
theorem dX13_fitsTaken_28 : decode cX13_fitsTaken 28 = .ok (.ifCond .eq 7, 3) := by decide +kernel
theorem dX13_fitsTaken_31 : decode cX13_fitsTaken 31 = .ok (.iconst 1, 1) := by decide +kernel
theorem dX13_fitsTaken_32 : decode cX13_fitsTaken 32 = .ok (.goto 4, 3) := by decide +kernel
theorem dX13_fitsTaken_35 : decode cX13_fitsTaken 35 = .ok (.iconst 0, 1) := by decide +kernel
theorem dX13_fitsTaken_36 : decode cX13_fitsTaken 36 = .ok (.ireturn, 1) := by decide +kernel
theorem dX13_takesSpan_0 : decode cX13_takesSpan 0 = .ok (.aload_n 0, 1) := by decide +kernel
theorem dX13_takesSpan_1 : decode cX13_takesSpan 1 = .ok (.getfield 395, 3) := by decide +kernel
theorem dX13_takesSpan_4 : decode cX13_takesSpan 4 = .ok (.iconst 1, 1) := by decide +kernel
theorem dX13_takesSpan_5 : decode cX13_takesSpan 5 = .ok (.if_icmp .ne 26, 3) := by decide +kernel
theorem dX13_takesSpan_8 : decode cX13_takesSpan 8 = .ok (.aload_n 0, 1) := by decide +kernel
theorem dX13_takesSpan_9 : decode cX13_takesSpan 9 = .ok (.aload_n 0, 1) := by decide +kernel
theorem dX13_takesSpan_10 : decode cX13_takesSpan 10 = .ok (.getfield 398, 3) := by decide +kernel
theorem dX13_takesSpan_13 : decode cX13_takesSpan 13 = .ok (.aload_n 0, 1) := by decide +kernel
theorem dX13_takesSpan_14 : decode cX13_takesSpan 14 = .ok (.getfield 401, 3) := by decide +kernel
theorem dX13_takesSpan_17 : decode cX13_takesSpan 17 = .ok (.aload_n 0, 1) := by decide +kernel
theorem dX13_takesSpan_18 : decode cX13_takesSpan 18 = .ok (.getfield 404, 3) := by decide +kernel
theorem dX13_takesSpan_21 : decode cX13_takesSpan 21 = .ok (.aload_n 0, 1) := by decide +kernel
theorem dX13_takesSpan_22 : decode cX13_takesSpan 22 = .ok (.getfield 407, 3) := by decide +kernel
theorem dX13_takesSpan_25 : decode cX13_takesSpan 25 = .ok (.invokevirtual 484, 3) := by decide +kernel
theorem dX13_takesSpan_28 : decode cX13_takesSpan 28 = .ok (.goto 114, 3) := by decide +kernel
theorem dX13_takesSpan_31 : decode cX13_takesSpan 31 = .ok (.aload_n 0, 1) := by decide +kernel
theorem dX13_takesSpan_32 : decode cX13_takesSpan 32 = .ok (.getfield 395, 3) := by decide +kernel
theorem dX13_takesSpan_35 : decode cX13_takesSpan 35 = .ok (.iconst 3, 1) := by decide +kernel
theorem dX13_takesSpan_36 : decode cX13_takesSpan 36 = .ok (.if_icmp .ne 52, 3) := by decide +kernel
theorem dX13_takesSpan_39 : decode cX13_takesSpan 39 = .ok (.aload_n 0, 1) := by decide +kernel
theorem dX13_takesSpan_40 : decode cX13_takesSpan 40 = .ok (.getfield 398, 3) := by decide +kernel
theorem dX13_takesSpan_43 : decode cX13_takesSpan 43 = .ok (.istore_n 2, 1) := by decide +kernel
theorem dX13_takesSpan_44 : decode cX13_takesSpan 44 = .ok (.iload_n 2, 1) := by decide +kernel
theorem dX13_takesSpan_45 : decode cX13_takesSpan 45 = .ok (.aload_n 0, 1) := by decide +kernel
theorem dX13_takesSpan_46 : decode cX13_takesSpan 46 = .ok (.getfield 404, 3) := by decide +kernel
theorem dX13_takesSpan_49 : decode cX13_takesSpan 49 = .ok (.if_icmp .gt 36, 3) := by decide +kernel
theorem dX13_takesSpan_52 : decode cX13_takesSpan 52 = .ok (.aload_n 0, 1) := by decide +kernel
theorem dX13_takesSpan_53 : decode cX13_takesSpan 53 = .ok (.iload_n 2, 1) := by decide +kernel
theorem dX13_takesSpan_54 : decode cX13_takesSpan 54 = .ok (.invokevirtual 448, 3) := by decide +kernel
theorem dX13_takesSpan_57 : decode cX13_takesSpan 57 = .ok (.aload_n 0, 1) := by decide +kernel
theorem dX13_takesSpan_58 : decode cX13_takesSpan 58 = .ok (.getfield 401, 3) := by decide +kernel
theorem dX13_takesSpan_61 : decode cX13_takesSpan 61 = .ok (.if_icmp .le 18, 3) := by decide +kernel
theorem dX13_takesSpan_64 : decode cX13_takesSpan 64 = .ok (.aload_n 0, 1) := by decide +kernel
theorem dX13_takesSpan_65 : decode cX13_takesSpan 65 = .ok (.iload_n 2, 1) := by decide +kernel
theorem dX13_takesSpan_66 : decode cX13_takesSpan 66 = .ok (.aload_n 0, 1) := by decide +kernel
theorem dX13_takesSpan_67 : decode cX13_takesSpan 67 = .ok (.getfield 401, 3) := by decide +kernel
theorem dX13_takesSpan_70 : decode cX13_takesSpan 70 = .ok (.iload_n 2, 1) := by decide +kernel
theorem dX13_takesSpan_71 : decode cX13_takesSpan 71 = .ok (.aload_n 0, 1) := by decide +kernel
theorem dX13_takesSpan_72 : decode cX13_takesSpan 72 = .ok (.iload_n 2, 1) := by decide +kernel
theorem dX13_takesSpan_73 : decode cX13_takesSpan 73 = .ok (.invokevirtual 448, 3) := by decide +kernel
theorem dX13_takesSpan_76 : decode cX13_takesSpan 76 = .ok (.invokevirtual 484, 3) := by decide +kernel
theorem dX13_takesSpan_79 : decode cX13_takesSpan 79 = .ok (.iinc 2 1, 3) := by decide +kernel
theorem dX13_takesSpan_82 : decode cX13_takesSpan 82 = .ok (.goto (-38), 3) := by decide +kernel
theorem dX13_takesSpan_85 : decode cX13_takesSpan 85 = .ok (.goto 57, 3) := by decide +kernel
theorem dX13_takesSpan_88 : decode cX13_takesSpan 88 = .ok (.iload_n 1, 1) := by decide +kernel
theorem dX13_takesSpan_89 : decode cX13_takesSpan 89 = .ok (.ifCond .ne 18, 3) := by decide +kernel
theorem dX13_takesSpan_92 : decode cX13_takesSpan 92 = .ok (.aload_n 0, 1) := by decide +kernel
theorem dX13_takesSpan_93 : decode cX13_takesSpan 93 = .ok (.aload_n 0, 1) := by decide +kernel
theorem dX13_takesSpan_94 : decode cX13_takesSpan 94 = .ok (.getfield 398, 3) := by decide +kernel
theorem dX13_takesSpan_97 : decode cX13_takesSpan 97 = .ok (.aload_n 0, 1) := by decide +kernel
theorem dX13_takesSpan_98 : decode cX13_takesSpan 98 = .ok (.getfield 404, 3) := by decide +kernel
theorem dX13_takesSpan_101 : decode cX13_takesSpan 101 = .ok (.invokevirtual 272, 3) := by decide +kernel
theorem dX13_takesSpan_104 : decode cX13_takesSpan 104 = .ok (.goto 38, 3) := by decide +kernel
theorem dX13_takesSpan_107 : decode cX13_takesSpan 107 = .ok (.aload_n 0, 1) := by decide +kernel
theorem dX13_takesSpan_108 : decode cX13_takesSpan 108 = .ok (.getfield 404, 3) := by decide +kernel
theorem dX13_takesSpan_111 : decode cX13_takesSpan 111 = .ok (.aload_n 0, 1) := by decide +kernel
theorem dX13_takesSpan_112 : decode cX13_takesSpan 112 = .ok (.getfield 398, 3) := by decide +kernel
theorem dX13_takesSpan_115 : decode cX13_takesSpan 115 = .ok (.if_icmp .le 17, 3) := by decide +kernel
theorem dX13_takesSpan_118 : decode cX13_takesSpan 118 = .ok (.aload_n 0, 1) := by decide +kernel
theorem dX13_takesSpan_119 : decode cX13_takesSpan 119 = .ok (.aload_n 0, 1) := by decide +kernel
theorem dX13_takesSpan_120 : decode cX13_takesSpan 120 = .ok (.getfield 398, 3) := by decide +kernel
theorem dX13_takesSpan_123 : decode cX13_takesSpan 123 = .ok (.iconst 1, 1) := by decide +kernel
theorem dX13_takesSpan_124 : decode cX13_takesSpan 124 = .ok (.iadd, 1) := by decide +kernel
theorem dX13_takesSpan_125 : decode cX13_takesSpan 125 = .ok (.aload_n 0, 1) := by decide +kernel
theorem dX13_takesSpan_126 : decode cX13_takesSpan 126 = .ok (.getfield 404, 3) := by decide +kernel
theorem dX13_takesSpan_129 : decode cX13_takesSpan 129 = .ok (.invokevirtual 272, 3) := by decide +kernel
theorem dX13_takesSpan_132 : decode cX13_takesSpan 132 = .ok (.aload_n 0, 1) := by decide +kernel
theorem dX13_takesSpan_133 : decode cX13_takesSpan 133 = .ok (.getfield 17, 3) := by decide +kernel
theorem dX13_takesSpan_136 : decode cX13_takesSpan 136 = .ok (.aload_n 0, 1) := by decide +kernel
theorem dX13_takesSpan_137 : decode cX13_takesSpan 137 = .ok (.getfield 398, 3) := by decide +kernel
theorem dX13_takesSpan_140 : decode cX13_takesSpan 140 = .ok (.iconst 0, 1) := by decide +kernel
theorem dX13_takesSpan_141 : decode cX13_takesSpan 141 = .ok (.iastore, 1) := by decide +kernel
theorem dX13_takesSpan_142 : decode cX13_takesSpan 142 = .ok (.return_, 1) := by decide +kernel
theorem dX13_goesNear_0 : decode cX13_goesNear 0 = .ok (.aload_n 0, 1) := by decide +kernel
theorem dX13_goesNear_1 : decode cX13_goesNear 1 = .ok (.iload_n 1, 1) := by decide +kernel
theorem dX13_goesNear_2 : decode cX13_goesNear 2 = .ok (.iconst 0, 1) := by decide +kernel
theorem dX13_goesNear_3 : decode cX13_goesNear 3 = .ok (.iload_n 2, 1) := by decide +kernel
theorem dX13_goesNear_4 : decode cX13_goesNear 4 = .ok (.aload_n 0, 1) := by decide +kernel
theorem dX13_goesNear_5 : decode cX13_goesNear 5 = .ok (.getfield 17, 3) := by decide +kernel
theorem dX13_goesNear_8 : decode cX13_goesNear 8 = .ok (.iload_n 1, 1) := by decide +kernel
theorem dX13_goesNear_9 : decode cX13_goesNear 9 = .ok (.iaload, 1) := by decide +kernel
theorem dX13_goesNear_10 : decode cX13_goesNear 10 = .ok (.iconst 1, 1) := by decide +kernel
theorem dX13_goesNear_11 : decode cX13_goesNear 11 = .ok (.isub, 1) := by decide +kernel
theorem dX13_goesNear_12 : decode cX13_goesNear 12 = .ok (.invokestatic 257, 3) := by decide +kernel
theorem dX13_goesNear_15 : decode cX13_goesNear 15 = .ok (.invokestatic 210, 3) := by decide +kernel
theorem dX13_goesNear_18 : decode cX13_goesNear 18 = .ok (.invokevirtual 226, 3) := by decide +kernel
theorem dX13_goesNear_21 : decode cX13_goesNear 21 = .ok (.return_, 1) := by decide +kernel
theorem dX13_deletes_0 : decode cX13_deletes 0 = .ok (.aload_n 0, 1) := by decide +kernel
theorem dX13_deletes_1 : decode cX13_deletes 1 = .ok (.invokevirtual 487, 3) := by decide +kernel
theorem dX13_deletes_4 : decode cX13_deletes 4 = .ok (.aload_n 0, 1) := by decide +kernel
theorem dX13_deletes_5 : decode cX13_deletes 5 = .ok (.invokevirtual 490, 3) := by decide +kernel
theorem dX13_deletes_8 : decode cX13_deletes 8 = .ok (.ifCond .eq 11, 3) := by decide +kernel
theorem dX13_deletes_11 : decode cX13_deletes 11 = .ok (.aload_n 0, 1) := by decide +kernel
theorem dX13_deletes_12 : decode cX13_deletes 12 = .ok (.iload_n 1, 1) := by decide +kernel
theorem dX13_deletes_13 : decode cX13_deletes 13 = .ok (.invokevirtual 493, 3) := by decide +kernel
theorem dX13_deletes_16 : decode cX13_deletes 16 = .ok (.ifCond .ne 5, 3) := by decide +kernel
theorem dX13_deletes_19 : decode cX13_deletes 19 = .ok (.iconst 0, 1) := by decide +kernel
theorem dX13_deletes_20 : decode cX13_deletes 20 = .ok (.ireturn, 1) := by decide +kernel
theorem dX13_deletes_21 : decode cX13_deletes 21 = .ok (.aload_n 0, 1) := by decide +kernel
theorem dX13_deletes_22 : decode cX13_deletes 22 = .ok (.iload_n 1, 1) := by decide +kernel
theorem dX13_deletes_23 : decode cX13_deletes 23 = .ok (.iconst 0, 1) := by decide +kernel
theorem dX13_deletes_24 : decode cX13_deletes 24 = .ok (.invokevirtual 496, 3) := by decide +kernel
theorem dX13_deletes_27 : decode cX13_deletes 27 = .ok (.aload_n 0, 1) := by decide +kernel
theorem dX13_deletes_28 : decode cX13_deletes 28 = .ok (.iload_n 2, 1) := by decide +kernel
theorem dX13_deletes_29 : decode cX13_deletes 29 = .ok (.invokevirtual 500, 3) := by decide +kernel
theorem dX13_deletes_32 : decode cX13_deletes 32 = .ok (.iload_n 2, 1) := by decide +kernel
theorem dX13_deletes_33 : decode cX13_deletes 33 = .ok (.ifCond .eq 17, 3) := by decide +kernel
theorem dX13_deletes_36 : decode cX13_deletes 36 = .ok (.aload_n 0, 1) := by decide +kernel
theorem dX13_deletes_37 : decode cX13_deletes 37 = .ok (.aload_n 0, 1) := by decide +kernel
theorem dX13_deletes_38 : decode cX13_deletes 38 = .ok (.getfield 398, 3) := by decide +kernel
theorem dX13_deletes_41 : decode cX13_deletes 41 = .ok (.aload_n 0, 1) := by decide +kernel
theorem dX13_deletes_42 : decode cX13_deletes 42 = .ok (.getfield 401, 3) := by decide +kernel
theorem dX13_deletes_45 : decode cX13_deletes 45 = .ok (.iconst 1, 1) := by decide +kernel
theorem dX13_deletes_46 : decode cX13_deletes 46 = .ok (.invokevirtual 504, 3) := by decide +kernel
theorem dX13_deletes_49 : decode cX13_deletes 49 = .ok (.ireturn, 1) := by decide +kernel
theorem dX13_deletes_50 : decode cX13_deletes 50 = .ok (.aload_n 0, 1) := by decide +kernel
theorem dX13_deletes_51 : decode cX13_deletes 51 = .ok (.getfield 395, 3) := by decide +kernel
theorem dX13_deletes_54 : decode cX13_deletes 54 = .ok (.iconst 2, 1) := by decide +kernel
theorem dX13_deletes_55 : decode cX13_deletes 55 = .ok (.if_icmp .ne 23, 3) := by decide +kernel
theorem dX13_deletes_58 : decode cX13_deletes 58 = .ok (.aload_n 0, 1) := by decide +kernel
theorem dX13_deletes_59 : decode cX13_deletes 59 = .ok (.aload_n 0, 1) := by decide +kernel
theorem dX13_deletes_60 : decode cX13_deletes 60 = .ok (.getfield 398, 3) := by decide +kernel
theorem dX13_deletes_63 : decode cX13_deletes 63 = .ok (.aload_n 0, 1) := by decide +kernel
theorem dX13_deletes_64 : decode cX13_deletes 64 = .ok (.getfield 13, 3) := by decide +kernel
theorem dX13_deletes_67 : decode cX13_deletes 67 = .ok (.iconst 1, 1) := by decide +kernel
theorem dX13_deletes_68 : decode cX13_deletes 68 = .ok (.isub, 1) := by decide +kernel
theorem dX13_deletes_69 : decode cX13_deletes 69 = .ok (.invokestatic 257, 3) := by decide +kernel
theorem dX13_deletes_72 : decode cX13_deletes 72 = .ok (.invokevirtual 507, 3) := by decide +kernel
theorem dX13_deletes_75 : decode cX13_deletes 75 = .ok (.goto 15, 3) := by decide +kernel
theorem dX13_deletes_78 : decode cX13_deletes 78 = .ok (.aload_n 0, 1) := by decide +kernel
theorem dX13_deletes_79 : decode cX13_deletes 79 = .ok (.aload_n 0, 1) := by decide +kernel
theorem dX13_deletes_80 : decode cX13_deletes 80 = .ok (.getfield 398, 3) := by decide +kernel
theorem dX13_deletes_83 : decode cX13_deletes 83 = .ok (.aload_n 0, 1) := by decide +kernel
theorem dX13_deletes_84 : decode cX13_deletes 84 = .ok (.getfield 401, 3) := by decide +kernel
theorem dX13_deletes_87 : decode cX13_deletes 87 = .ok (.invokevirtual 510, 3) := by decide +kernel
theorem dX13_deletes_90 : decode cX13_deletes 90 = .ok (.iconst 1, 1) := by decide +kernel
theorem dX13_deletes_91 : decode cX13_deletes 91 = .ok (.ireturn, 1) := by decide +kernel
theorem dX13_yanks_0 : decode cX13_yanks 0 = .ok (.aload_n 0, 1) := by decide +kernel
theorem dX13_yanks_1 : decode cX13_yanks 1 = .ok (.invokevirtual 487, 3) := by decide +kernel
theorem dX13_yanks_4 : decode cX13_yanks 4 = .ok (.aload_n 0, 1) := by decide +kernel
theorem dX13_yanks_5 : decode cX13_yanks 5 = .ok (.iload_n 1, 1) := by decide +kernel
theorem dX13_yanks_6 : decode cX13_yanks 6 = .ok (.invokevirtual 493, 3) := by decide +kernel
theorem dX13_yanks_9 : decode cX13_yanks 9 = .ok (.ifCond .ne 5, 3) := by decide +kernel
theorem dX13_yanks_12 : decode cX13_yanks 12 = .ok (.iconst 0, 1) := by decide +kernel
theorem dX13_yanks_13 : decode cX13_yanks 13 = .ok (.ireturn, 1) := by decide +kernel
theorem dX13_yanks_14 : decode cX13_yanks 14 = .ok (.aload_n 0, 1) := by decide +kernel
theorem dX13_yanks_15 : decode cX13_yanks 15 = .ok (.iload_n 1, 1) := by decide +kernel
theorem dX13_yanks_16 : decode cX13_yanks 16 = .ok (.iconst 1, 1) := by decide +kernel
theorem dX13_yanks_17 : decode cX13_yanks 17 = .ok (.invokevirtual 496, 3) := by decide +kernel
theorem dX13_yanks_20 : decode cX13_yanks 20 = .ok (.aload_n 0, 1) := by decide +kernel
theorem dX13_yanks_21 : decode cX13_yanks 21 = .ok (.aload_n 0, 1) := by decide +kernel
theorem dX13_yanks_22 : decode cX13_yanks 22 = .ok (.getfield 398, 3) := by decide +kernel
theorem dX13_yanks_25 : decode cX13_yanks 25 = .ok (.aload_n 0, 1) := by decide +kernel
theorem dX13_yanks_26 : decode cX13_yanks 26 = .ok (.getfield 395, 3) := by decide +kernel
theorem dX13_yanks_29 : decode cX13_yanks 29 = .ok (.iconst 2, 1) := by decide +kernel
theorem dX13_yanks_30 : decode cX13_yanks 30 = .ok (.if_icmp .ne 10, 3) := by decide +kernel
theorem dX13_yanks_33 : decode cX13_yanks 33 = .ok (.aload_n 0, 1) := by decide +kernel
theorem dX13_yanks_34 : decode cX13_yanks 34 = .ok (.getfield 216, 3) := by decide +kernel
theorem dX13_yanks_37 : decode cX13_yanks 37 = .ok (.goto 7, 3) := by decide +kernel
theorem dX13_yanks_40 : decode cX13_yanks 40 = .ok (.aload_n 0, 1) := by decide +kernel
theorem dX13_yanks_41 : decode cX13_yanks 41 = .ok (.getfield 401, 3) := by decide +kernel
theorem dX13_yanks_44 : decode cX13_yanks 44 = .ok (.invokevirtual 510, 3) := by decide +kernel
theorem dX13_yanks_47 : decode cX13_yanks 47 = .ok (.iconst 1, 1) := by decide +kernel
theorem dX13_yanks_48 : decode cX13_yanks 48 = .ok (.ireturn, 1) := by decide +kernel
theorem dX13_shifts_0 : decode cX13_shifts 0 = .ok (.aload_n 0, 1) := by decide +kernel
theorem dX13_shifts_1 : decode cX13_shifts 1 = .ok (.getfield 398, 3) := by decide +kernel
theorem dX13_shifts_4 : decode cX13_shifts 4 = .ok (.istore_n 2, 1) := by decide +kernel
theorem dX13_shifts_5 : decode cX13_shifts 5 = .ok (.iload_n 2, 1) := by decide +kernel
theorem dX13_shifts_6 : decode cX13_shifts 6 = .ok (.aload_n 0, 1) := by decide +kernel
theorem dX13_shifts_7 : decode cX13_shifts 7 = .ok (.getfield 404, 3) := by decide +kernel
theorem dX13_shifts_10 : decode cX13_shifts 10 = .ok (.if_icmp .gt 26, 3) := by decide +kernel
theorem dX13_shifts_13 : decode cX13_shifts 13 = .ok (.iload_n 1, 1) := by decide +kernel
theorem dX13_shifts_14 : decode cX13_shifts 14 = .ok (.ifCond .eq 16, 3) := by decide +kernel
theorem dX13_shifts_17 : decode cX13_shifts 17 = .ok (.aload_n 0, 1) := by decide +kernel
theorem dX13_shifts_18 : decode cX13_shifts 18 = .ok (.getfield 17, 3) := by decide +kernel
theorem dX13_shifts_21 : decode cX13_shifts 21 = .ok (.iload_n 2, 1) := by decide +kernel
theorem dX13_shifts_22 : decode cX13_shifts 22 = .ok (.iaload, 1) := by decide +kernel
theorem dX13_shifts_23 : decode cX13_shifts 23 = .ok (.bipush 58, 2) := by decide +kernel
theorem dX13_shifts_25 : decode cX13_shifts 25 = .ok (.if_icmp .le 5, 3) := by decide +kernel
theorem dX13_shifts_28 : decode cX13_shifts 28 = .ok (.iconst 0, 1) := by decide +kernel
theorem dX13_shifts_29 : decode cX13_shifts 29 = .ok (.ireturn, 1) := by decide +kernel
theorem dX13_shifts_30 : decode cX13_shifts 30 = .ok (.iinc 2 1, 3) := by decide +kernel
theorem dX13_shifts_33 : decode cX13_shifts 33 = .ok (.goto (-28), 3) := by decide +kernel
theorem dX13_shifts_36 : decode cX13_shifts 36 = .ok (.aload_n 0, 1) := by decide +kernel
theorem dX13_shifts_37 : decode cX13_shifts 37 = .ok (.getfield 398, 3) := by decide +kernel
theorem dX13_shifts_40 : decode cX13_shifts 40 = .ok (.istore_n 2, 1) := by decide +kernel
theorem dX13_shifts_41 : decode cX13_shifts 41 = .ok (.iload_n 2, 1) := by decide +kernel
theorem dX13_shifts_42 : decode cX13_shifts 42 = .ok (.aload_n 0, 1) := by decide +kernel
theorem dX13_shifts_43 : decode cX13_shifts 43 = .ok (.getfield 404, 3) := by decide +kernel
theorem dX13_shifts_46 : decode cX13_shifts 46 = .ok (.if_icmp .gt 90, 3) := by decide +kernel
theorem dX13_shifts_49 : decode cX13_shifts 49 = .ok (.iconst 0, 1) := by decide +kernel
theorem dX13_shifts_50 : decode cX13_shifts 50 = .ok (.istore_n 3, 1) := by decide +kernel
theorem dX13_shifts_51 : decode cX13_shifts 51 = .ok (.iload_n 3, 1) := by decide +kernel
theorem dX13_shifts_52 : decode cX13_shifts 52 = .ok (.iconst 2, 1) := by decide +kernel
theorem dX13_shifts_53 : decode cX13_shifts 53 = .ok (.if_icmp .ge 30, 3) := by decide +kernel
theorem dX13_shifts_56 : decode cX13_shifts 56 = .ok (.iload_n 3, 1) := by decide +kernel
theorem dX13_shifts_57 : decode cX13_shifts 57 = .ok (.aload_n 0, 1) := by decide +kernel
theorem dX13_shifts_58 : decode cX13_shifts 58 = .ok (.getfield 17, 3) := by decide +kernel
theorem dX13_shifts_61 : decode cX13_shifts 61 = .ok (.iload_n 2, 1) := by decide +kernel
theorem dX13_shifts_62 : decode cX13_shifts 62 = .ok (.iaload, 1) := by decide +kernel
theorem dX13_shifts_63 : decode cX13_shifts 63 = .ok (.if_icmp .ge 20, 3) := by decide +kernel
theorem dX13_shifts_66 : decode cX13_shifts 66 = .ok (.aload_n 0, 1) := by decide +kernel
theorem dX13_shifts_67 : decode cX13_shifts 67 = .ok (.iload_n 2, 1) := by decide +kernel
theorem dX13_shifts_68 : decode cX13_shifts 68 = .ok (.iload_n 3, 1) := by decide +kernel
theorem dX13_shifts_69 : decode cX13_shifts 69 = .ok (.invokevirtual 206, 3) := by decide +kernel
theorem dX13_shifts_72 : decode cX13_shifts 72 = .ok (.bipush 32, 2) := by decide +kernel
theorem dX13_shifts_74 : decode cX13_shifts 74 = .ok (.if_icmp .ne 9, 3) := by decide +kernel
theorem dX13_shifts_77 : decode cX13_shifts 77 = .ok (.iinc 3 1, 3) := by decide +kernel
theorem dX13_shifts_80 : decode cX13_shifts 80 = .ok (.goto (-29), 3) := by decide +kernel
theorem dX13_shifts_83 : decode cX13_shifts 83 = .ok (.iload_n 1, 1) := by decide +kernel
theorem dX13_shifts_84 : decode cX13_shifts 84 = .ok (.ifCond .ne 14, 3) := by decide +kernel
theorem dX13_shifts_87 : decode cX13_shifts 87 = .ok (.aload_n 0, 1) := by decide +kernel
theorem dX13_shifts_88 : decode cX13_shifts 88 = .ok (.iload_n 2, 1) := by decide +kernel
theorem dX13_shifts_89 : decode cX13_shifts 89 = .ok (.iconst 0, 1) := by decide +kernel
theorem dX13_shifts_90 : decode cX13_shifts 90 = .ok (.iload_n 2, 1) := by decide +kernel
theorem dX13_shifts_91 : decode cX13_shifts 91 = .ok (.iload_n 3, 1) := by decide +kernel
theorem dX13_shifts_92 : decode cX13_shifts 92 = .ok (.invokevirtual 484, 3) := by decide +kernel
theorem dX13_shifts_95 : decode cX13_shifts 95 = .ok (.goto 35, 3) := by decide +kernel
theorem dX13_shifts_98 : decode cX13_shifts 98 = .ok (.aload_n 0, 1) := by decide +kernel
theorem dX13_shifts_99 : decode cX13_shifts 99 = .ok (.getfield 17, 3) := by decide +kernel
theorem dX13_shifts_102 : decode cX13_shifts 102 = .ok (.iload_n 2, 1) := by decide +kernel
theorem dX13_shifts_103 : decode cX13_shifts 103 = .ok (.iaload, 1) := by decide +kernel
theorem dX13_shifts_104 : decode cX13_shifts 104 = .ok (.ifCond .le 26, 3) := by decide +kernel
theorem dX13_shifts_107 : decode cX13_shifts 107 = .ok (.aload_n 0, 1) := by decide +kernel
theorem dX13_shifts_108 : decode cX13_shifts 108 = .ok (.getfield 83, 3) := by decide +kernel
theorem dX13_shifts_111 : decode cX13_shifts 111 = .ok (.iconst 0, 1) := by decide +kernel
theorem dX13_shifts_112 : decode cX13_shifts 112 = .ok (.bipush 32, 2) := by decide +kernel
theorem dX13_shifts_114 : decode cX13_shifts 114 = .ok (.iastore, 1) := by decide +kernel
theorem dX13_shifts_115 : decode cX13_shifts 115 = .ok (.aload_n 0, 1) := by decide +kernel
theorem dX13_shifts_116 : decode cX13_shifts 116 = .ok (.getfield 83, 3) := by decide +kernel
theorem dX13_shifts_119 : decode cX13_shifts 119 = .ok (.iconst 1, 1) := by decide +kernel
theorem dX13_shifts_120 : decode cX13_shifts 120 = .ok (.bipush 32, 2) := by decide +kernel
theorem dX13_shifts_122 : decode cX13_shifts 122 = .ok (.iastore, 1) := by decide +kernel
theorem dX13_shifts_123 : decode cX13_shifts 123 = .ok (.aload_n 0, 1) := by decide +kernel
theorem dX13_shifts_124 : decode cX13_shifts 124 = .ok (.iload_n 2, 1) := by decide +kernel
theorem dX13_shifts_125 : decode cX13_shifts 125 = .ok (.iconst 0, 1) := by decide +kernel
theorem dX13_shifts_126 : decode cX13_shifts 126 = .ok (.iconst 2, 1) := by decide +kernel
theorem dX13_shifts_127 : decode cX13_shifts 127 = .ok (.invokevirtual 513, 3) := by decide +kernel
theorem dX13_shifts_130 : decode cX13_shifts 130 = .ok (.iinc 2 1, 3) := by decide +kernel
theorem dX13_shifts_133 : decode cX13_shifts 133 = .ok (.goto (-92), 3) := by decide +kernel
theorem dX13_shifts_136 : decode cX13_shifts 136 = .ok (.aload_n 0, 1) := by decide +kernel
theorem dX13_shifts_137 : decode cX13_shifts 137 = .ok (.aload_n 0, 1) := by decide +kernel
theorem dX13_shifts_138 : decode cX13_shifts 138 = .ok (.getfield 398, 3) := by decide +kernel
theorem dX13_shifts_141 : decode cX13_shifts 141 = .ok (.invokevirtual 507, 3) := by decide +kernel
theorem dX13_shifts_144 : decode cX13_shifts 144 = .ok (.iconst 1, 1) := by decide +kernel
theorem dX13_shifts_145 : decode cX13_shifts 145 = .ok (.ireturn, 1) := by decide +kernel
theorem dX13_turnsCase_0 : decode cX13_turnsCase 0 = .ok (.bipush 60, 2) := by decide +kernel
theorem dX13_turnsCase_2 : decode cX13_turnsCase 2 = .ok (.iload_n 1, 1) := by decide +kernel
theorem dX13_turnsCase_3 : decode cX13_turnsCase 3 = .ok (.imul, 1) := by decide +kernel
theorem dX13_turnsCase_4 : decode cX13_turnsCase 4 = .ok (.iload_n 2, 1) := by decide +kernel
theorem dX13_turnsCase_5 : decode cX13_turnsCase 5 = .ok (.iadd, 1) := by decide +kernel
theorem dX13_turnsCase_6 : decode cX13_turnsCase 6 = .ok (.istore 4, 2) := by decide +kernel
theorem dX13_turnsCase_8 : decode cX13_turnsCase 8 = .ok (.iload 4, 2) := by decide +kernel
theorem dX13_turnsCase_10 : decode cX13_turnsCase 10 = .ok (.bipush 60, 2) := by decide +kernel
theorem dX13_turnsCase_12 : decode cX13_turnsCase 12 = .ok (.iload_n 1, 1) := by decide +kernel
theorem dX13_turnsCase_13 : decode cX13_turnsCase 13 = .ok (.imul, 1) := by decide +kernel
theorem dX13_turnsCase_14 : decode cX13_turnsCase 14 = .ok (.iload_n 3, 1) := by decide +kernel
theorem dX13_turnsCase_15 : decode cX13_turnsCase 15 = .ok (.iadd, 1) := by decide +kernel
theorem dX13_turnsCase_16 : decode cX13_turnsCase 16 = .ok (.if_icmp .ge 83, 3) := by decide +kernel
theorem dX13_turnsCase_19 : decode cX13_turnsCase 19 = .ok (.aload_n 0, 1) := by decide +kernel
theorem dX13_turnsCase_20 : decode cX13_turnsCase 20 = .ok (.getfield 20, 3) := by decide +kernel
theorem dX13_turnsCase_23 : decode cX13_turnsCase 23 = .ok (.iload 4, 2) := by decide +kernel
theorem dX13_turnsCase_25 : decode cX13_turnsCase 25 = .ok (.aload_n 0, 1) := by decide +kernel
theorem dX13_turnsCase_26 : decode cX13_turnsCase 26 = .ok (.getfield 20, 3) := by decide +kernel
theorem dX13_turnsCase_29 : decode cX13_turnsCase 29 = .ok (.iload 4, 2) := by decide +kernel
theorem dX13_turnsCase_31 : decode cX13_turnsCase 31 = .ok (.iaload, 1) := by decide +kernel
theorem dX13_turnsCase_32 : decode cX13_turnsCase 32 = .ok (.bipush 97, 2) := by decide +kernel
theorem dX13_turnsCase_34 : decode cX13_turnsCase 34 = .ok (.bipush 122, 2) := by decide +kernel
theorem dX13_turnsCase_36 : decode cX13_turnsCase 36 = .ok (.invokestatic 198, 3) := by decide +kernel
theorem dX13_turnsCase_39 : decode cX13_turnsCase 39 = .ok (.ifCond .eq 16, 3) := by decide +kernel
theorem dX13_turnsCase_42 : decode cX13_turnsCase 42 = .ok (.aload_n 0, 1) := by decide +kernel
theorem dX13_turnsCase_43 : decode cX13_turnsCase 43 = .ok (.getfield 20, 3) := by decide +kernel
theorem dX13_turnsCase_46 : decode cX13_turnsCase 46 = .ok (.iload 4, 2) := by decide +kernel
theorem dX13_turnsCase_48 : decode cX13_turnsCase 48 = .ok (.iaload, 1) := by decide +kernel
theorem dX13_turnsCase_49 : decode cX13_turnsCase 49 = .ok (.bipush 32, 2) := by decide +kernel
theorem dX13_turnsCase_51 : decode cX13_turnsCase 51 = .ok (.isub, 1) := by decide +kernel
theorem dX13_turnsCase_52 : decode cX13_turnsCase 52 = .ok (.goto 40, 3) := by decide +kernel
theorem dX13_turnsCase_55 : decode cX13_turnsCase 55 = .ok (.aload_n 0, 1) := by decide +kernel
theorem dX13_turnsCase_56 : decode cX13_turnsCase 56 = .ok (.getfield 20, 3) := by decide +kernel
theorem dX13_turnsCase_59 : decode cX13_turnsCase 59 = .ok (.iload 4, 2) := by decide +kernel
theorem dX13_turnsCase_61 : decode cX13_turnsCase 61 = .ok (.iaload, 1) := by decide +kernel
theorem dX13_turnsCase_62 : decode cX13_turnsCase 62 = .ok (.bipush 65, 2) := by decide +kernel
theorem dX13_turnsCase_64 : decode cX13_turnsCase 64 = .ok (.bipush 90, 2) := by decide +kernel
theorem dX13_turnsCase_66 : decode cX13_turnsCase 66 = .ok (.invokestatic 198, 3) := by decide +kernel
theorem dX13_turnsCase_69 : decode cX13_turnsCase 69 = .ok (.ifCond .eq 16, 3) := by decide +kernel
theorem dX13_turnsCase_72 : decode cX13_turnsCase 72 = .ok (.aload_n 0, 1) := by decide +kernel
theorem dX13_turnsCase_73 : decode cX13_turnsCase 73 = .ok (.getfield 20, 3) := by decide +kernel
theorem dX13_turnsCase_76 : decode cX13_turnsCase 76 = .ok (.iload 4, 2) := by decide +kernel
theorem dX13_turnsCase_78 : decode cX13_turnsCase 78 = .ok (.iaload, 1) := by decide +kernel
theorem dX13_turnsCase_79 : decode cX13_turnsCase 79 = .ok (.bipush 32, 2) := by decide +kernel
theorem dX13_turnsCase_81 : decode cX13_turnsCase 81 = .ok (.iadd, 1) := by decide +kernel
theorem dX13_turnsCase_82 : decode cX13_turnsCase 82 = .ok (.goto 10, 3) := by decide +kernel
theorem dX13_turnsCase_85 : decode cX13_turnsCase 85 = .ok (.aload_n 0, 1) := by decide +kernel
theorem dX13_turnsCase_86 : decode cX13_turnsCase 86 = .ok (.getfield 20, 3) := by decide +kernel
theorem dX13_turnsCase_89 : decode cX13_turnsCase 89 = .ok (.iload 4, 2) := by decide +kernel
theorem dX13_turnsCase_91 : decode cX13_turnsCase 91 = .ok (.iaload, 1) := by decide +kernel
theorem dX13_turnsCase_92 : decode cX13_turnsCase 92 = .ok (.iastore, 1) := by decide +kernel
theorem dX13_turnsCase_93 : decode cX13_turnsCase 93 = .ok (.iinc 4 1, 3) := by decide +kernel
theorem dX13_turnsCase_96 : decode cX13_turnsCase 96 = .ok (.goto (-88), 3) := by decide +kernel
theorem dX13_turnsCase_99 : decode cX13_turnsCase 99 = .ok (.return_, 1) := by decide +kernel
theorem dX13_spanFrom_0 : decode cX13_spanFrom 0 = .ok (.aload_n 0, 1) := by decide +kernel
theorem dX13_spanFrom_1 : decode cX13_spanFrom 1 = .ok (.getfield 395, 3) := by decide +kernel
theorem dX13_spanFrom_4 : decode cX13_spanFrom 4 = .ok (.iconst 3, 1) := by decide +kernel
theorem dX13_spanFrom_5 : decode cX13_spanFrom 5 = .ok (.if_icmp .eq 19, 3) := by decide +kernel
theorem dX13_spanFrom_8 : decode cX13_spanFrom 8 = .ok (.aload_n 0, 1) := by decide +kernel
theorem dX13_spanFrom_9 : decode cX13_spanFrom 9 = .ok (.getfield 395, 3) := by decide +kernel
theorem dX13_spanFrom_12 : decode cX13_spanFrom 12 = .ok (.iconst 1, 1) := by decide +kernel
theorem dX13_spanFrom_13 : decode cX13_spanFrom 13 = .ok (.if_icmp .ne 18, 3) := by decide +kernel
theorem dX13_spanFrom_16 : decode cX13_spanFrom 16 = .ok (.iload_n 1, 1) := by decide +kernel
theorem dX13_spanFrom_17 : decode cX13_spanFrom 17 = .ok (.aload_n 0, 1) := by decide +kernel
theorem dX13_spanFrom_18 : decode cX13_spanFrom 18 = .ok (.getfield 398, 3) := by decide +kernel
theorem dX13_spanFrom_21 : decode cX13_spanFrom 21 = .ok (.if_icmp .ne 10, 3) := by decide +kernel
theorem dX13_spanFrom_24 : decode cX13_spanFrom 24 = .ok (.aload_n 0, 1) := by decide +kernel
theorem dX13_spanFrom_25 : decode cX13_spanFrom 25 = .ok (.getfield 401, 3) := by decide +kernel
theorem dX13_spanFrom_28 : decode cX13_spanFrom 28 = .ok (.goto 4, 3) := by decide +kernel
theorem dX13_spanFrom_31 : decode cX13_spanFrom 31 = .ok (.iconst 0, 1) := by decide +kernel
theorem dX13_spanFrom_32 : decode cX13_spanFrom 32 = .ok (.ireturn, 1) := by decide +kernel
theorem dX13_spanTo_0 : decode cX13_spanTo 0 = .ok (.aload_n 0, 1) := by decide +kernel
theorem dX13_spanTo_1 : decode cX13_spanTo 1 = .ok (.getfield 395, 3) := by decide +kernel
theorem dX13_spanTo_4 : decode cX13_spanTo 4 = .ok (.iconst 3, 1) := by decide +kernel
theorem dX13_spanTo_5 : decode cX13_spanTo 5 = .ok (.if_icmp .ne 11, 3) := by decide +kernel
theorem dX13_spanTo_8 : decode cX13_spanTo 8 = .ok (.aload_n 0, 1) := by decide +kernel
theorem dX13_spanTo_9 : decode cX13_spanTo 9 = .ok (.iload_n 1, 1) := by decide +kernel
theorem dX13_spanTo_10 : decode cX13_spanTo 10 = .ok (.invokevirtual 448, 3) := by decide +kernel
theorem dX13_spanTo_13 : decode cX13_spanTo 13 = .ok (.goto 32, 3) := by decide +kernel
theorem dX13_spanTo_16 : decode cX13_spanTo 16 = .ok (.aload_n 0, 1) := by decide +kernel
theorem dX13_spanTo_17 : decode cX13_spanTo 17 = .ok (.getfield 395, 3) := by decide +kernel
theorem dX13_spanTo_20 : decode cX13_spanTo 20 = .ok (.iconst 1, 1) := by decide +kernel
theorem dX13_spanTo_21 : decode cX13_spanTo 21 = .ok (.if_icmp .ne 18, 3) := by decide +kernel
theorem dX13_spanTo_24 : decode cX13_spanTo 24 = .ok (.iload_n 1, 1) := by decide +kernel
theorem dX13_spanTo_25 : decode cX13_spanTo 25 = .ok (.aload_n 0, 1) := by decide +kernel
theorem dX13_spanTo_26 : decode cX13_spanTo 26 = .ok (.getfield 404, 3) := by decide +kernel
theorem dX13_spanTo_29 : decode cX13_spanTo 29 = .ok (.if_icmp .ne 10, 3) := by decide +kernel
theorem dX13_spanTo_32 : decode cX13_spanTo 32 = .ok (.aload_n 0, 1) := by decide +kernel
theorem dX13_spanTo_33 : decode cX13_spanTo 33 = .ok (.getfield 407, 3) := by decide +kernel
theorem dX13_spanTo_36 : decode cX13_spanTo 36 = .ok (.goto 9, 3) := by decide +kernel
theorem dX13_spanTo_39 : decode cX13_spanTo 39 = .ok (.aload_n 0, 1) := by decide +kernel
theorem dX13_spanTo_40 : decode cX13_spanTo 40 = .ok (.getfield 17, 3) := by decide +kernel
theorem dX13_spanTo_43 : decode cX13_spanTo 43 = .ok (.iload_n 1, 1) := by decide +kernel
theorem dX13_spanTo_44 : decode cX13_spanTo 44 = .ok (.iaload, 1) := by decide +kernel
theorem dX13_spanTo_45 : decode cX13_spanTo 45 = .ok (.ireturn, 1) := by decide +kernel
theorem dX13_turnsSpan_0 : decode cX13_turnsSpan 0 = .ok (.aload_n 0, 1) := by decide +kernel
theorem dX13_turnsSpan_1 : decode cX13_turnsSpan 1 = .ok (.getfield 398, 3) := by decide +kernel
theorem dX13_turnsSpan_4 : decode cX13_turnsSpan 4 = .ok (.istore_n 1, 1) := by decide +kernel
theorem dX13_turnsSpan_5 : decode cX13_turnsSpan 5 = .ok (.iload_n 1, 1) := by decide +kernel
theorem dX13_turnsSpan_6 : decode cX13_turnsSpan 6 = .ok (.aload_n 0, 1) := by decide +kernel
theorem dX13_turnsSpan_7 : decode cX13_turnsSpan 7 = .ok (.getfield 404, 3) := by decide +kernel
theorem dX13_turnsSpan_10 : decode cX13_turnsSpan 10 = .ok (.if_icmp .gt 32, 3) := by decide +kernel
theorem dX13_turnsSpan_13 : decode cX13_turnsSpan 13 = .ok (.aload_n 0, 1) := by decide +kernel
theorem dX13_turnsSpan_14 : decode cX13_turnsSpan 14 = .ok (.iload_n 1, 1) := by decide +kernel
theorem dX13_turnsSpan_15 : decode cX13_turnsSpan 15 = .ok (.aload_n 0, 1) := by decide +kernel
theorem dX13_turnsSpan_16 : decode cX13_turnsSpan 16 = .ok (.iload_n 1, 1) := by decide +kernel
theorem dX13_turnsSpan_17 : decode cX13_turnsSpan 17 = .ok (.invokevirtual 517, 3) := by decide +kernel
theorem dX13_turnsSpan_20 : decode cX13_turnsSpan 20 = .ok (.aload_n 0, 1) := by decide +kernel
theorem dX13_turnsSpan_21 : decode cX13_turnsSpan 21 = .ok (.iload_n 1, 1) := by decide +kernel
theorem dX13_turnsSpan_22 : decode cX13_turnsSpan 22 = .ok (.invokevirtual 517, 3) := by decide +kernel
theorem dX13_turnsSpan_25 : decode cX13_turnsSpan 25 = .ok (.aload_n 0, 1) := by decide +kernel
theorem dX13_turnsSpan_26 : decode cX13_turnsSpan 26 = .ok (.iload_n 1, 1) := by decide +kernel
theorem dX13_turnsSpan_27 : decode cX13_turnsSpan 27 = .ok (.invokevirtual 520, 3) := by decide +kernel
theorem dX13_turnsSpan_30 : decode cX13_turnsSpan 30 = .ok (.invokestatic 210, 3) := by decide +kernel
theorem dX13_turnsSpan_33 : decode cX13_turnsSpan 33 = .ok (.invokevirtual 523, 3) := by decide +kernel
theorem dX13_turnsSpan_36 : decode cX13_turnsSpan 36 = .ok (.iinc 1 1, 3) := by decide +kernel
theorem dX13_turnsSpan_39 : decode cX13_turnsSpan 39 = .ok (.goto (-34), 3) := by decide +kernel
theorem dX13_turnsSpan_42 : decode cX13_turnsSpan 42 = .ok (.aload_n 0, 1) := by decide +kernel
theorem dX13_turnsSpan_43 : decode cX13_turnsSpan 43 = .ok (.aload_n 0, 1) := by decide +kernel
theorem dX13_turnsSpan_44 : decode cX13_turnsSpan 44 = .ok (.getfield 398, 3) := by decide +kernel
theorem dX13_turnsSpan_47 : decode cX13_turnsSpan 47 = .ok (.aload_n 0, 1) := by decide +kernel
theorem dX13_turnsSpan_48 : decode cX13_turnsSpan 48 = .ok (.aload_n 0, 1) := by decide +kernel
theorem dX13_turnsSpan_49 : decode cX13_turnsSpan 49 = .ok (.getfield 398, 3) := by decide +kernel
theorem dX13_turnsSpan_52 : decode cX13_turnsSpan 52 = .ok (.invokevirtual 517, 3) := by decide +kernel
theorem dX13_turnsSpan_55 : decode cX13_turnsSpan 55 = .ok (.invokevirtual 510, 3) := by decide +kernel
theorem dX13_turnsSpan_58 : decode cX13_turnsSpan 58 = .ok (.iconst 1, 1) := by decide +kernel
theorem dX13_turnsSpan_59 : decode cX13_turnsSpan 59 = .ok (.ireturn, 1) := by decide +kernel
theorem dX13_makesFold_0 : decode cX13_makesFold 0 = .ok (.aload_n 0, 1) := by decide +kernel
theorem dX13_makesFold_1 : decode cX13_makesFold 1 = .ok (.getfield 404, 3) := by decide +kernel
theorem dX13_makesFold_4 : decode cX13_makesFold 4 = .ok (.aload_n 0, 1) := by decide +kernel
theorem dX13_makesFold_5 : decode cX13_makesFold 5 = .ok (.getfield 398, 3) := by decide +kernel
theorem dX13_makesFold_8 : decode cX13_makesFold 8 = .ok (.if_icmp .le 7, 3) := by decide +kernel
theorem dX13_makesFold_11 : decode cX13_makesFold 11 = .ok (.iconst 1, 1) := by decide +kernel
theorem dX13_makesFold_12 : decode cX13_makesFold 12 = .ok (.goto 4, 3) := by decide +kernel
theorem dX13_makesFold_15 : decode cX13_makesFold 15 = .ok (.iconst 0, 1) := by decide +kernel
theorem dX13_makesFold_16 : decode cX13_makesFold 16 = .ok (.istore_n 1, 1) := by decide +kernel
theorem dX13_makesFold_17 : decode cX13_makesFold 17 = .ok (.iconst 0, 1) := by decide +kernel
theorem dX13_makesFold_18 : decode cX13_makesFold 18 = .ok (.istore_n 2, 1) := by decide +kernel
theorem dX13_makesFold_19 : decode cX13_makesFold 19 = .ok (.iload_n 2, 1) := by decide +kernel
theorem dX13_makesFold_20 : decode cX13_makesFold 20 = .ok (.sipush 1600, 3) := by decide +kernel
theorem dX13_makesFold_23 : decode cX13_makesFold 23 = .ok (.if_icmp .ge 138, 3) := by decide +kernel
theorem dX13_makesFold_26 : decode cX13_makesFold 26 = .ok (.iload_n 1, 1) := by decide +kernel
theorem dX13_makesFold_27 : decode cX13_makesFold 27 = .ok (.ifCond .eq 134, 3) := by decide +kernel
theorem dX13_makesFold_30 : decode cX13_makesFold 30 = .ok (.iload_n 2, 1) := by decide +kernel
theorem dX13_makesFold_31 : decode cX13_makesFold 31 = .ok (.bipush 40, 2) := by decide +kernel
theorem dX13_makesFold_33 : decode cX13_makesFold 33 = .ok (.idiv, 1) := by decide +kernel
theorem dX13_makesFold_34 : decode cX13_makesFold 34 = .ok (.istore_n 3, 1) := by decide +kernel
theorem dX13_makesFold_35 : decode cX13_makesFold 35 = .ok (.iload_n 2, 1) := by decide +kernel
theorem dX13_makesFold_36 : decode cX13_makesFold 36 = .ok (.bipush 40, 2) := by decide +kernel
theorem dX13_makesFold_38 : decode cX13_makesFold 38 = .ok (.irem, 1) := by decide +kernel
theorem dX13_makesFold_39 : decode cX13_makesFold 39 = .ok (.istore 4, 2) := by decide +kernel
theorem dX13_makesFold_41 : decode cX13_makesFold 41 = .ok (.iload 4, 2) := by decide +kernel
theorem dX13_makesFold_43 : decode cX13_makesFold 43 = .ok (.aload_n 0, 1) := by decide +kernel
theorem dX13_makesFold_44 : decode cX13_makesFold 44 = .ok (.getfield 398, 3) := by decide +kernel
theorem dX13_makesFold_47 : decode cX13_makesFold 47 = .ok (.if_icmp .lt 11, 3) := by decide +kernel
theorem dX13_makesFold_50 : decode cX13_makesFold 50 = .ok (.iload_n 3, 1) := by decide +kernel
theorem dX13_makesFold_51 : decode cX13_makesFold 51 = .ok (.aload_n 0, 1) := by decide +kernel
theorem dX13_makesFold_52 : decode cX13_makesFold 52 = .ok (.getfield 404, 3) := by decide +kernel
theorem dX13_makesFold_55 : decode cX13_makesFold 55 = .ok (.if_icmp .le 7, 3) := by decide +kernel
theorem dX13_makesFold_58 : decode cX13_makesFold 58 = .ok (.iconst 1, 1) := by decide +kernel
theorem dX13_makesFold_59 : decode cX13_makesFold 59 = .ok (.goto 4, 3) := by decide +kernel
theorem dX13_makesFold_62 : decode cX13_makesFold 62 = .ok (.iconst 0, 1) := by decide +kernel
theorem dX13_makesFold_63 : decode cX13_makesFold 63 = .ok (.istore 5, 2) := by decide +kernel
theorem dX13_makesFold_65 : decode cX13_makesFold 65 = .ok (.iload_n 3, 1) := by decide +kernel
theorem dX13_makesFold_66 : decode cX13_makesFold 66 = .ok (.aload_n 0, 1) := by decide +kernel
theorem dX13_makesFold_67 : decode cX13_makesFold 67 = .ok (.getfield 398, 3) := by decide +kernel
theorem dX13_makesFold_70 : decode cX13_makesFold 70 = .ok (.if_icmp .lt 12, 3) := by decide +kernel
theorem dX13_makesFold_73 : decode cX13_makesFold 73 = .ok (.iload 4, 2) := by decide +kernel
theorem dX13_makesFold_75 : decode cX13_makesFold 75 = .ok (.aload_n 0, 1) := by decide +kernel
theorem dX13_makesFold_76 : decode cX13_makesFold 76 = .ok (.getfield 404, 3) := by decide +kernel
theorem dX13_makesFold_79 : decode cX13_makesFold 79 = .ok (.if_icmp .le 20, 3) := by decide +kernel
theorem dX13_makesFold_82 : decode cX13_makesFold 82 = .ok (.iload_n 3, 1) := by decide +kernel
theorem dX13_makesFold_83 : decode cX13_makesFold 83 = .ok (.aload_n 0, 1) := by decide +kernel
theorem dX13_makesFold_84 : decode cX13_makesFold 84 = .ok (.getfield 398, 3) := by decide +kernel
theorem dX13_makesFold_87 : decode cX13_makesFold 87 = .ok (.if_icmp .gt 16, 3) := by decide +kernel
theorem dX13_makesFold_90 : decode cX13_makesFold 90 = .ok (.iload 4, 2) := by decide +kernel
theorem dX13_makesFold_92 : decode cX13_makesFold 92 = .ok (.aload_n 0, 1) := by decide +kernel
theorem dX13_makesFold_93 : decode cX13_makesFold 93 = .ok (.getfield 404, 3) := by decide +kernel
theorem dX13_makesFold_96 : decode cX13_makesFold 96 = .ok (.if_icmp .lt 7, 3) := by decide +kernel
theorem dX13_makesFold_99 : decode cX13_makesFold 99 = .ok (.iconst 1, 1) := by decide +kernel
theorem dX13_makesFold_100 : decode cX13_makesFold 100 = .ok (.goto 4, 3) := by decide +kernel
theorem dX13_makesFold_103 : decode cX13_makesFold 103 = .ok (.iconst 0, 1) := by decide +kernel
theorem dX13_makesFold_104 : decode cX13_makesFold 104 = .ok (.istore 6, 2) := by decide +kernel
theorem dX13_makesFold_106 : decode cX13_makesFold 106 = .ok (.aload_n 0, 1) := by decide +kernel
theorem dX13_makesFold_107 : decode cX13_makesFold 107 = .ok (.getfield 48, 3) := by decide +kernel
theorem dX13_makesFold_110 : decode cX13_makesFold 110 = .ok (.iload_n 2, 1) := by decide +kernel
theorem dX13_makesFold_111 : decode cX13_makesFold 111 = .ok (.iaload, 1) := by decide +kernel
theorem dX13_makesFold_112 : decode cX13_makesFold 112 = .ok (.aload_n 0, 1) := by decide +kernel
theorem dX13_makesFold_113 : decode cX13_makesFold 113 = .ok (.getfield 51, 3) := by decide +kernel
theorem dX13_makesFold_116 : decode cX13_makesFold 116 = .ok (.iload_n 2, 1) := by decide +kernel
theorem dX13_makesFold_117 : decode cX13_makesFold 117 = .ok (.iaload, 1) := by decide +kernel
theorem dX13_makesFold_118 : decode cX13_makesFold 118 = .ok (.iadd, 1) := by decide +kernel
theorem dX13_makesFold_119 : decode cX13_makesFold 119 = .ok (.ifCond .eq 30, 3) := by decide +kernel
theorem dX13_makesFold_122 : decode cX13_makesFold 122 = .ok (.iload 5, 2) := by decide +kernel
theorem dX13_makesFold_124 : decode cX13_makesFold 124 = .ok (.ifCond .ne 25, 3) := by decide +kernel
theorem dX13_makesFold_127 : decode cX13_makesFold 127 = .ok (.iload 6, 2) := by decide +kernel
theorem dX13_makesFold_129 : decode cX13_makesFold 129 = .ok (.ifCond .eq 24, 3) := by decide +kernel
theorem dX13_makesFold_132 : decode cX13_makesFold 132 = .ok (.iload_n 3, 1) := by decide +kernel
theorem dX13_makesFold_133 : decode cX13_makesFold 133 = .ok (.aload_n 0, 1) := by decide +kernel
theorem dX13_makesFold_134 : decode cX13_makesFold 134 = .ok (.getfield 398, 3) := by decide +kernel
theorem dX13_makesFold_137 : decode cX13_makesFold 137 = .ok (.if_icmp .ne 12, 3) := by decide +kernel
theorem dX13_makesFold_140 : decode cX13_makesFold 140 = .ok (.iload 4, 2) := by decide +kernel
theorem dX13_makesFold_142 : decode cX13_makesFold 142 = .ok (.aload_n 0, 1) := by decide +kernel
theorem dX13_makesFold_143 : decode cX13_makesFold 143 = .ok (.getfield 404, 3) := by decide +kernel
theorem dX13_makesFold_146 : decode cX13_makesFold 146 = .ok (.if_icmp .eq 7, 3) := by decide +kernel
theorem dX13_makesFold_149 : decode cX13_makesFold 149 = .ok (.iconst 1, 1) := by decide +kernel
theorem dX13_makesFold_150 : decode cX13_makesFold 150 = .ok (.goto 4, 3) := by decide +kernel
theorem dX13_makesFold_153 : decode cX13_makesFold 153 = .ok (.iconst 0, 1) := by decide +kernel
theorem dX13_makesFold_154 : decode cX13_makesFold 154 = .ok (.istore_n 1, 1) := by decide +kernel
theorem dX13_makesFold_155 : decode cX13_makesFold 155 = .ok (.iinc 2 1, 3) := by decide +kernel
theorem dX13_makesFold_158 : decode cX13_makesFold 158 = .ok (.goto (-139), 3) := by decide +kernel
theorem dX13_makesFold_161 : decode cX13_makesFold 161 = .ok (.iload_n 1, 1) := by decide +kernel
theorem dX13_makesFold_162 : decode cX13_makesFold 162 = .ok (.ifCond .eq 27, 3) := by decide +kernel
theorem dX13_makesFold_165 : decode cX13_makesFold 165 = .ok (.aload_n 0, 1) := by decide +kernel
theorem dX13_makesFold_166 : decode cX13_makesFold 166 = .ok (.aload_n 0, 1) := by decide +kernel
theorem dX13_makesFold_167 : decode cX13_makesFold 167 = .ok (.getfield 398, 3) := by decide +kernel
theorem dX13_makesFold_170 : decode cX13_makesFold 170 = .ok (.aload_n 0, 1) := by decide +kernel
theorem dX13_makesFold_171 : decode cX13_makesFold 171 = .ok (.getfield 404, 3) := by decide +kernel
theorem dX13_makesFold_174 : decode cX13_makesFold 174 = .ok (.iconst 0, 1) := by decide +kernel
theorem dX13_makesFold_175 : decode cX13_makesFold 175 = .ok (.iconst 1, 1) := by decide +kernel
theorem dX13_makesFold_176 : decode cX13_makesFold 176 = .ok (.invokevirtual 240, 3) := by decide +kernel
theorem dX13_makesFold_179 : decode cX13_makesFold 179 = .ok (.aload_n 0, 1) := by decide +kernel
theorem dX13_makesFold_180 : decode cX13_makesFold 180 = .ok (.dup, 1) := by decide +kernel
theorem dX13_makesFold_181 : decode cX13_makesFold 181 = .ok (.getfield 237, 3) := by decide +kernel
theorem dX13_makesFold_184 : decode cX13_makesFold 184 = .ok (.iconst 1, 1) := by decide +kernel
theorem dX13_makesFold_185 : decode cX13_makesFold 185 = .ok (.iadd, 1) := by decide +kernel
theorem dX13_makesFold_186 : decode cX13_makesFold 186 = .ok (.putfield 237, 3) := by decide +kernel
theorem dX13_makesFold_189 : decode cX13_makesFold 189 = .ok (.iload_n 1, 1) := by decide +kernel
theorem dX13_makesFold_190 : decode cX13_makesFold 190 = .ok (.ireturn, 1) := by decide +kernel
theorem dX13_operates_0 : decode cX13_operates 0 = .ok (.iload_n 1, 1) := by decide +kernel
theorem dX13_operates_1 : decode cX13_operates 1 = .ok (.lookupswitch 103 #[(60, 82), (62, 82), (99, 59), (100, 59), (121, 76), (382, 98)], 59) := by decide +kernel
theorem dX13_operates_60 : decode cX13_operates 60 = .ok (.aload_n 0, 1) := by decide +kernel
theorem dX13_operates_61 : decode cX13_operates 61 = .ok (.iload_n 2, 1) := by decide +kernel
theorem dX13_operates_62 : decode cX13_operates 62 = .ok (.iload_n 1, 1) := by decide +kernel
theorem dX13_operates_63 : decode cX13_operates 63 = .ok (.bipush 99, 2) := by decide +kernel
theorem dX13_operates_65 : decode cX13_operates 65 = .ok (.if_icmp .ne 7, 3) := by decide +kernel
theorem dX13_operates_68 : decode cX13_operates 68 = .ok (.iconst 1, 1) := by decide +kernel
theorem dX13_operates_69 : decode cX13_operates 69 = .ok (.goto 4, 3) := by decide +kernel
theorem dX13_operates_72 : decode cX13_operates 72 = .ok (.iconst 0, 1) := by decide +kernel
theorem dX13_operates_73 : decode cX13_operates 73 = .ok (.invokevirtual 526, 3) := by decide +kernel
theorem dX13_operates_76 : decode cX13_operates 76 = .ok (.ireturn, 1) := by decide +kernel
theorem dX13_operates_77 : decode cX13_operates 77 = .ok (.aload_n 0, 1) := by decide +kernel
theorem dX13_operates_78 : decode cX13_operates 78 = .ok (.iload_n 2, 1) := by decide +kernel
theorem dX13_operates_79 : decode cX13_operates 79 = .ok (.invokevirtual 529, 3) := by decide +kernel
theorem dX13_operates_82 : decode cX13_operates 82 = .ok (.ireturn, 1) := by decide +kernel
theorem dX13_operates_83 : decode cX13_operates 83 = .ok (.aload_n 0, 1) := by decide +kernel
theorem dX13_operates_84 : decode cX13_operates 84 = .ok (.iload_n 1, 1) := by decide +kernel
theorem dX13_operates_85 : decode cX13_operates 85 = .ok (.bipush 62, 2) := by decide +kernel
theorem dX13_operates_87 : decode cX13_operates 87 = .ok (.if_icmp .ne 7, 3) := by decide +kernel
theorem dX13_operates_90 : decode cX13_operates 90 = .ok (.iconst 1, 1) := by decide +kernel
theorem dX13_operates_91 : decode cX13_operates 91 = .ok (.goto 4, 3) := by decide +kernel
theorem dX13_operates_94 : decode cX13_operates 94 = .ok (.iconst 0, 1) := by decide +kernel
theorem dX13_operates_95 : decode cX13_operates 95 = .ok (.invokevirtual 532, 3) := by decide +kernel
theorem dX13_operates_98 : decode cX13_operates 98 = .ok (.ireturn, 1) := by decide +kernel
theorem dX13_operates_99 : decode cX13_operates 99 = .ok (.aload_n 0, 1) := by decide +kernel
theorem dX13_operates_100 : decode cX13_operates 100 = .ok (.invokevirtual 535, 3) := by decide +kernel
theorem dX13_operates_103 : decode cX13_operates 103 = .ok (.ireturn, 1) := by decide +kernel
theorem dX13_operates_104 : decode cX13_operates 104 = .ok (.aload_n 0, 1) := by decide +kernel
theorem dX13_operates_105 : decode cX13_operates 105 = .ok (.invokevirtual 538, 3) := by decide +kernel
theorem dX13_operates_108 : decode cX13_operates 108 = .ok (.ireturn, 1) := by decide +kernel
theorem dX13_operatesMotion_0 : decode cX13_operatesMotion 0 = .ok (.aload_n 0, 1) := by decide +kernel
theorem dX13_operatesMotion_1 : decode cX13_operatesMotion 1 = .ok (.iload_n 3, 1) := by decide +kernel
theorem dX13_operatesMotion_2 : decode cX13_operatesMotion 2 = .ok (.iload 4, 2) := by decide +kernel
theorem dX13_operatesMotion_4 : decode cX13_operatesMotion 4 = .ok (.iload 5, 2) := by decide +kernel
theorem dX13_operatesMotion_6 : decode cX13_operatesMotion 6 = .ok (.iload 6, 2) := by decide +kernel
theorem dX13_operatesMotion_8 : decode cX13_operatesMotion 8 = .ok (.iconst 1, 1) := by decide +kernel
theorem dX13_operatesMotion_9 : decode cX13_operatesMotion 9 = .ok (.invokevirtual 541, 3) := by decide +kernel
theorem dX13_operatesMotion_12 : decode cX13_operatesMotion 12 = .ok (.ifCond .eq 24, 3) := by decide +kernel
theorem dX13_operatesMotion_15 : decode cX13_operatesMotion 15 = .ok (.aload_n 0, 1) := by decide +kernel
theorem dX13_operatesMotion_16 : decode cX13_operatesMotion 16 = .ok (.iload_n 3, 1) := by decide +kernel
theorem dX13_operatesMotion_17 : decode cX13_operatesMotion 17 = .ok (.invokevirtual 545, 3) := by decide +kernel
theorem dX13_operatesMotion_20 : decode cX13_operatesMotion 20 = .ok (.ifCond .eq 16, 3) := by decide +kernel
theorem dX13_operatesMotion_23 : decode cX13_operatesMotion 23 = .ok (.aload_n 0, 1) := by decide +kernel
theorem dX13_operatesMotion_24 : decode cX13_operatesMotion 24 = .ok (.iload_n 1, 1) := by decide +kernel
theorem dX13_operatesMotion_25 : decode cX13_operatesMotion 25 = .ok (.iload_n 2, 1) := by decide +kernel
theorem dX13_operatesMotion_26 : decode cX13_operatesMotion 26 = .ok (.invokevirtual 548, 3) := by decide +kernel
theorem dX13_operatesMotion_29 : decode cX13_operatesMotion 29 = .ok (.ifCond .eq 7, 3) := by decide +kernel
theorem dX13_operatesMotion_32 : decode cX13_operatesMotion 32 = .ok (.iconst 1, 1) := by decide +kernel
theorem dX13_operatesMotion_33 : decode cX13_operatesMotion 33 = .ok (.goto 4, 3) := by decide +kernel
theorem dX13_operatesMotion_36 : decode cX13_operatesMotion 36 = .ok (.iconst 0, 1) := by decide +kernel
theorem dX13_operatesMotion_37 : decode cX13_operatesMotion 37 = .ok (.ireturn, 1) := by decide +kernel
theorem dX13_spansSeen_0 : decode cX13_spansSeen 0 = .ok (.aload_n 0, 1) := by decide +kernel
theorem dX13_spansSeen_1 : decode cX13_spansSeen 1 = .ok (.getfield 213, 3) := by decide +kernel
theorem dX13_spansSeen_4 : decode cX13_spansSeen 4 = .ok (.istore_n 2, 1) := by decide +kernel
theorem dX13_spansSeen_5 : decode cX13_spansSeen 5 = .ok (.iconst 1, 1) := by decide +kernel
theorem dX13_spansSeen_6 : decode cX13_spansSeen 6 = .ok (.istore_n 3, 1) := by decide +kernel
theorem dX13_spansSeen_7 : decode cX13_spansSeen 7 = .ok (.iload_n 3, 1) := by decide +kernel
theorem dX13_spansSeen_8 : decode cX13_spansSeen 8 = .ok (.iload_n 1, 1) := by decide +kernel
theorem dX13_spansSeen_9 : decode cX13_spansSeen 9 = .ok (.if_icmp .ge 27, 3) := by decide +kernel
theorem dX13_spansSeen_12 : decode cX13_spansSeen 12 = .ok (.aload_n 0, 1) := by decide +kernel
theorem dX13_spansSeen_13 : decode cX13_spansSeen 13 = .ok (.iload_n 2, 1) := by decide +kernel
theorem dX13_spansSeen_14 : decode cX13_spansSeen 14 = .ok (.invokevirtual 343, 3) := by decide +kernel
theorem dX13_spansSeen_17 : decode cX13_spansSeen 17 = .ok (.iconst 1, 1) := by decide +kernel
theorem dX13_spansSeen_18 : decode cX13_spansSeen 18 = .ok (.iadd, 1) := by decide +kernel
theorem dX13_spansSeen_19 : decode cX13_spansSeen 19 = .ok (.istore_n 2, 1) := by decide +kernel
theorem dX13_spansSeen_20 : decode cX13_spansSeen 20 = .ok (.iload_n 2, 1) := by decide +kernel
theorem dX13_spansSeen_21 : decode cX13_spansSeen 21 = .ok (.aload_n 0, 1) := by decide +kernel
theorem dX13_spansSeen_22 : decode cX13_spansSeen 22 = .ok (.getfield 13, 3) := by decide +kernel
theorem dX13_spansSeen_25 : decode cX13_spansSeen 25 = .ok (.if_icmp .lt 5, 3) := by decide +kernel
theorem dX13_spansSeen_28 : decode cX13_spansSeen 28 = .ok (.iconst 0, 1) := by decide +kernel
theorem dX13_spansSeen_29 : decode cX13_spansSeen 29 = .ok (.ireturn, 1) := by decide +kernel
theorem dX13_spansSeen_30 : decode cX13_spansSeen 30 = .ok (.iinc 3 1, 3) := by decide +kernel
theorem dX13_spansSeen_33 : decode cX13_spansSeen 33 = .ok (.goto (-26), 3) := by decide +kernel
theorem dX13_spansSeen_36 : decode cX13_spansSeen 36 = .ok (.aload_n 0, 1) := by decide +kernel
theorem dX13_spansSeen_37 : decode cX13_spansSeen 37 = .ok (.aload_n 0, 1) := by decide +kernel
theorem dX13_spansSeen_38 : decode cX13_spansSeen 38 = .ok (.aload_n 0, 1) := by decide +kernel
theorem dX13_spansSeen_39 : decode cX13_spansSeen 39 = .ok (.getfield 213, 3) := by decide +kernel
theorem dX13_spansSeen_42 : decode cX13_spansSeen 42 = .ok (.invokevirtual 346, 3) := by decide +kernel
theorem dX13_spansSeen_45 : decode cX13_spansSeen 45 = .ok (.aload_n 0, 1) := by decide +kernel
theorem dX13_spansSeen_46 : decode cX13_spansSeen 46 = .ok (.iload_n 2, 1) := by decide +kernel
theorem dX13_spansSeen_47 : decode cX13_spansSeen 47 = .ok (.invokevirtual 343, 3) := by decide +kernel
theorem dX13_spansSeen_50 : decode cX13_spansSeen 50 = .ok (.invokevirtual 414, 3) := by decide +kernel
theorem dX13_spansSeen_53 : decode cX13_spansSeen 53 = .ok (.iconst 1, 1) := by decide +kernel
theorem dX13_spansSeen_54 : decode cX13_spansSeen 54 = .ok (.ireturn, 1) := by decide +kernel
theorem dX13_operatesObject_0 : decode cX13_operatesObject 0 = .ok (.aload_n 0, 1) := by decide +kernel
theorem dX13_operatesObject_1 : decode cX13_operatesObject 1 = .ok (.iload_n 3, 1) := by decide +kernel
theorem dX13_operatesObject_2 : decode cX13_operatesObject 2 = .ok (.iload 4, 2) := by decide +kernel
theorem dX13_operatesObject_4 : decode cX13_operatesObject 4 = .ok (.iload 5, 2) := by decide +kernel
theorem dX13_operatesObject_6 : decode cX13_operatesObject 6 = .ok (.invokevirtual 551, 3) := by decide +kernel
theorem dX13_operatesObject_9 : decode cX13_operatesObject 9 = .ok (.ifCond .ne 5, 3) := by decide +kernel
theorem dX13_operatesObject_12 : decode cX13_operatesObject 12 = .ok (.iconst 0, 1) := by decide +kernel
theorem dX13_operatesObject_13 : decode cX13_operatesObject 13 = .ok (.ireturn, 1) := by decide +kernel
theorem dX13_operatesObject_14 : decode cX13_operatesObject 14 = .ok (.aload_n 0, 1) := by decide +kernel
theorem dX13_operatesObject_15 : decode cX13_operatesObject 15 = .ok (.invokevirtual 417, 3) := by decide +kernel
theorem dX13_operatesObject_18 : decode cX13_operatesObject 18 = .ok (.ifCond .ne 31, 3) := by decide +kernel
theorem dX13_operatesObject_21 : decode cX13_operatesObject 21 = .ok (.iload_n 1, 1) := by decide +kernel
theorem dX13_operatesObject_22 : decode cX13_operatesObject 22 = .ok (.bipush 99, 2) := by decide +kernel
theorem dX13_operatesObject_24 : decode cX13_operatesObject 24 = .ok (.if_icmp .ne 23, 3) := by decide +kernel
theorem dX13_operatesObject_27 : decode cX13_operatesObject 27 = .ok (.aload_n 0, 1) := by decide +kernel
theorem dX13_operatesObject_28 : decode cX13_operatesObject 28 = .ok (.aload_n 0, 1) := by decide +kernel
theorem dX13_operatesObject_29 : decode cX13_operatesObject 29 = .ok (.getfield 398, 3) := by decide +kernel
theorem dX13_operatesObject_32 : decode cX13_operatesObject 32 = .ok (.aload_n 0, 1) := by decide +kernel
theorem dX13_operatesObject_33 : decode cX13_operatesObject 33 = .ok (.getfield 401, 3) := by decide +kernel
theorem dX13_operatesObject_36 : decode cX13_operatesObject 36 = .ok (.iconst 1, 1) := by decide +kernel
theorem dX13_operatesObject_37 : decode cX13_operatesObject 37 = .ok (.invokevirtual 504, 3) := by decide +kernel
theorem dX13_operatesObject_40 : decode cX13_operatesObject 40 = .ok (.ifCond .eq 7, 3) := by decide +kernel
theorem dX13_operatesObject_43 : decode cX13_operatesObject 43 = .ok (.iconst 1, 1) := by decide +kernel
theorem dX13_operatesObject_44 : decode cX13_operatesObject 44 = .ok (.goto 4, 3) := by decide +kernel
theorem dX13_operatesObject_47 : decode cX13_operatesObject 47 = .ok (.iconst 0, 1) := by decide +kernel
theorem dX13_operatesObject_48 : decode cX13_operatesObject 48 = .ok (.ireturn, 1) := by decide +kernel
theorem dX13_operatesObject_49 : decode cX13_operatesObject 49 = .ok (.aload_n 0, 1) := by decide +kernel
theorem dX13_operatesObject_50 : decode cX13_operatesObject 50 = .ok (.iload_n 1, 1) := by decide +kernel
theorem dX13_operatesObject_51 : decode cX13_operatesObject 51 = .ok (.iload_n 2, 1) := by decide +kernel
theorem dX13_operatesObject_52 : decode cX13_operatesObject 52 = .ok (.invokevirtual 548, 3) := by decide +kernel
theorem dX13_operatesObject_55 : decode cX13_operatesObject 55 = .ok (.ireturn, 1) := by decide +kernel
theorem dX13_joins_0 : decode cX13_joins 0 = .ok (.iload_n 1, 1) := by decide +kernel
theorem dX13_joins_1 : decode cX13_joins 1 = .ok (.iload_n 2, 1) := by decide +kernel
theorem dX13_joins_2 : decode cX13_joins 2 = .ok (.iadd, 1) := by decide +kernel
theorem dX13_joins_3 : decode cX13_joins 3 = .ok (.aload_n 0, 1) := by decide +kernel
theorem dX13_joins_4 : decode cX13_joins 4 = .ok (.getfield 13, 3) := by decide +kernel
theorem dX13_joins_7 : decode cX13_joins 7 = .ok (.if_icmp .le 5, 3) := by decide +kernel
theorem dX13_joins_10 : decode cX13_joins 10 = .ok (.iconst 0, 1) := by decide +kernel
theorem dX13_joins_11 : decode cX13_joins 11 = .ok (.ireturn, 1) := by decide +kernel
theorem dX13_joins_12 : decode cX13_joins 12 = .ok (.aload_n 0, 1) := by decide +kernel
theorem dX13_joins_13 : decode cX13_joins 13 = .ok (.getfield 17, 3) := by decide +kernel
theorem dX13_joins_16 : decode cX13_joins 16 = .ok (.iload_n 1, 1) := by decide +kernel
theorem dX13_joins_17 : decode cX13_joins 17 = .ok (.iaload, 1) := by decide +kernel
theorem dX13_joins_18 : decode cX13_joins 18 = .ok (.istore_n 3, 1) := by decide +kernel
theorem dX13_joins_19 : decode cX13_joins 19 = .ok (.iconst 0, 1) := by decide +kernel
theorem dX13_joins_20 : decode cX13_joins 20 = .ok (.istore 4, 2) := by decide +kernel
theorem dX13_joins_22 : decode cX13_joins 22 = .ok (.iload_n 1, 1) := by decide +kernel
theorem dX13_joins_23 : decode cX13_joins 23 = .ok (.iconst 1, 1) := by decide +kernel
theorem dX13_joins_24 : decode cX13_joins 24 = .ok (.iadd, 1) := by decide +kernel
theorem dX13_joins_25 : decode cX13_joins 25 = .ok (.istore 5, 2) := by decide +kernel
theorem dX13_joins_27 : decode cX13_joins 27 = .ok (.iload 5, 2) := by decide +kernel
theorem dX13_joins_29 : decode cX13_joins 29 = .ok (.iload_n 1, 1) := by decide +kernel
theorem dX13_joins_30 : decode cX13_joins 30 = .ok (.iload_n 2, 1) := by decide +kernel
theorem dX13_joins_31 : decode cX13_joins 31 = .ok (.iadd, 1) := by decide +kernel
theorem dX13_joins_32 : decode cX13_joins 32 = .ok (.if_icmp .ge 78, 3) := by decide +kernel
theorem dX13_joins_35 : decode cX13_joins 35 = .ok (.iconst 0, 1) := by decide +kernel
theorem dX13_joins_36 : decode cX13_joins 36 = .ok (.istore 6, 2) := by decide +kernel
theorem dX13_joins_38 : decode cX13_joins 38 = .ok (.iload 6, 2) := by decide +kernel
theorem dX13_joins_40 : decode cX13_joins 40 = .ok (.aload_n 0, 1) := by decide +kernel
theorem dX13_joins_41 : decode cX13_joins 41 = .ok (.getfield 17, 3) := by decide +kernel
theorem dX13_joins_44 : decode cX13_joins 44 = .ok (.iload 5, 2) := by decide +kernel
theorem dX13_joins_46 : decode cX13_joins 46 = .ok (.iaload, 1) := by decide +kernel
theorem dX13_joins_47 : decode cX13_joins 47 = .ok (.if_icmp .ge 22, 3) := by decide +kernel
theorem dX13_joins_50 : decode cX13_joins 50 = .ok (.aload_n 0, 1) := by decide +kernel
theorem dX13_joins_51 : decode cX13_joins 51 = .ok (.iload 5, 2) := by decide +kernel
theorem dX13_joins_53 : decode cX13_joins 53 = .ok (.iload 6, 2) := by decide +kernel
theorem dX13_joins_55 : decode cX13_joins 55 = .ok (.invokevirtual 206, 3) := by decide +kernel
theorem dX13_joins_58 : decode cX13_joins 58 = .ok (.bipush 32, 2) := by decide +kernel
theorem dX13_joins_60 : decode cX13_joins 60 = .ok (.if_icmp .ne 9, 3) := by decide +kernel
theorem dX13_joins_63 : decode cX13_joins 63 = .ok (.iinc 6 1, 3) := by decide +kernel
theorem dX13_joins_66 : decode cX13_joins 66 = .ok (.goto (-28), 3) := by decide +kernel
theorem dX13_joins_69 : decode cX13_joins 69 = .ok (.aload_n 0, 1) := by decide +kernel
theorem dX13_joins_70 : decode cX13_joins 70 = .ok (.getfield 17, 3) := by decide +kernel
theorem dX13_joins_73 : decode cX13_joins 73 = .ok (.iload 5, 2) := by decide +kernel
theorem dX13_joins_75 : decode cX13_joins 75 = .ok (.iaload, 1) := by decide +kernel
theorem dX13_joins_76 : decode cX13_joins 76 = .ok (.iload 6, 2) := by decide +kernel
theorem dX13_joins_78 : decode cX13_joins 78 = .ok (.isub, 1) := by decide +kernel
theorem dX13_joins_79 : decode cX13_joins 79 = .ok (.istore 7, 2) := by decide +kernel
theorem dX13_joins_81 : decode cX13_joins 81 = .ok (.iload_n 3, 1) := by decide +kernel
theorem dX13_joins_82 : decode cX13_joins 82 = .ok (.istore 4, 2) := by decide +kernel
theorem dX13_joins_84 : decode cX13_joins 84 = .ok (.iload_n 3, 1) := by decide +kernel
theorem dX13_joins_85 : decode cX13_joins 85 = .ok (.iload 7, 2) := by decide +kernel
theorem dX13_joins_87 : decode cX13_joins 87 = .ok (.iload_n 3, 1) := by decide +kernel
theorem dX13_joins_88 : decode cX13_joins 88 = .ok (.ifCond .le 12, 3) := by decide +kernel
theorem dX13_joins_91 : decode cX13_joins 91 = .ok (.iload 7, 2) := by decide +kernel
theorem dX13_joins_93 : decode cX13_joins 93 = .ok (.ifCond .le 7, 3) := by decide +kernel
theorem dX13_joins_96 : decode cX13_joins 96 = .ok (.iconst 1, 1) := by decide +kernel
theorem dX13_joins_97 : decode cX13_joins 97 = .ok (.goto 4, 3) := by decide +kernel
theorem dX13_joins_100 : decode cX13_joins 100 = .ok (.iconst 0, 1) := by decide +kernel
theorem dX13_joins_101 : decode cX13_joins 101 = .ok (.iadd, 1) := by decide +kernel
theorem dX13_joins_102 : decode cX13_joins 102 = .ok (.iadd, 1) := by decide +kernel
theorem dX13_joins_103 : decode cX13_joins 103 = .ok (.istore_n 3, 1) := by decide +kernel
theorem dX13_joins_104 : decode cX13_joins 104 = .ok (.iinc 5 1, 3) := by decide +kernel
theorem dX13_joins_107 : decode cX13_joins 107 = .ok (.goto (-80), 3) := by decide +kernel
theorem dX13_joins_110 : decode cX13_joins 110 = .ok (.iload_n 3, 1) := by decide +kernel
theorem dX13_joins_111 : decode cX13_joins 111 = .ok (.bipush 60, 2) := by decide +kernel
theorem dX13_joins_113 : decode cX13_joins 113 = .ok (.if_icmp .le 5, 3) := by decide +kernel
theorem dX13_joins_116 : decode cX13_joins 116 = .ok (.iconst 0, 1) := by decide +kernel
theorem dX13_joins_117 : decode cX13_joins 117 = .ok (.ireturn, 1) := by decide +kernel
theorem dX13_joins_118 : decode cX13_joins 118 = .ok (.iload_n 1, 1) := by decide +kernel
theorem dX13_joins_119 : decode cX13_joins 119 = .ok (.iconst 1, 1) := by decide +kernel
theorem dX13_joins_120 : decode cX13_joins 120 = .ok (.iadd, 1) := by decide +kernel
theorem dX13_joins_121 : decode cX13_joins 121 = .ok (.istore 5, 2) := by decide +kernel
theorem dX13_joins_123 : decode cX13_joins 123 = .ok (.iload 5, 2) := by decide +kernel
theorem dX13_joins_125 : decode cX13_joins 125 = .ok (.iload_n 1, 1) := by decide +kernel
theorem dX13_joins_126 : decode cX13_joins 126 = .ok (.iload_n 2, 1) := by decide +kernel
theorem dX13_joins_127 : decode cX13_joins 127 = .ok (.iadd, 1) := by decide +kernel
theorem dX13_joins_128 : decode cX13_joins 128 = .ok (.if_icmp .ge 148, 3) := by decide +kernel
theorem dX13_joins_131 : decode cX13_joins 131 = .ok (.iconst 0, 1) := by decide +kernel
theorem dX13_joins_132 : decode cX13_joins 132 = .ok (.istore 6, 2) := by decide +kernel
theorem dX13_joins_134 : decode cX13_joins 134 = .ok (.iload 6, 2) := by decide +kernel
theorem dX13_joins_136 : decode cX13_joins 136 = .ok (.aload_n 0, 1) := by decide +kernel
theorem dX13_joins_137 : decode cX13_joins 137 = .ok (.getfield 17, 3) := by decide +kernel
theorem dX13_joins_140 : decode cX13_joins 140 = .ok (.iload 5, 2) := by decide +kernel
theorem dX13_joins_142 : decode cX13_joins 142 = .ok (.iaload, 1) := by decide +kernel
theorem dX13_joins_143 : decode cX13_joins 143 = .ok (.if_icmp .ge 22, 3) := by decide +kernel
theorem dX13_joins_146 : decode cX13_joins 146 = .ok (.aload_n 0, 1) := by decide +kernel
theorem dX13_joins_147 : decode cX13_joins 147 = .ok (.iload 5, 2) := by decide +kernel
theorem dX13_joins_149 : decode cX13_joins 149 = .ok (.iload 6, 2) := by decide +kernel
theorem dX13_joins_151 : decode cX13_joins 151 = .ok (.invokevirtual 206, 3) := by decide +kernel
theorem dX13_joins_154 : decode cX13_joins 154 = .ok (.bipush 32, 2) := by decide +kernel
theorem dX13_joins_156 : decode cX13_joins 156 = .ok (.if_icmp .ne 9, 3) := by decide +kernel
theorem dX13_joins_159 : decode cX13_joins 159 = .ok (.iinc 6 1, 3) := by decide +kernel
theorem dX13_joins_162 : decode cX13_joins 162 = .ok (.goto (-28), 3) := by decide +kernel
theorem dX13_joins_165 : decode cX13_joins 165 = .ok (.aload_n 0, 1) := by decide +kernel
theorem dX13_joins_166 : decode cX13_joins 166 = .ok (.getfield 17, 3) := by decide +kernel
theorem dX13_joins_169 : decode cX13_joins 169 = .ok (.iload_n 1, 1) := by decide +kernel
theorem dX13_joins_170 : decode cX13_joins 170 = .ok (.iaload, 1) := by decide +kernel
theorem dX13_joins_171 : decode cX13_joins 171 = .ok (.ifCond .le 43, 3) := by decide +kernel
theorem dX13_joins_174 : decode cX13_joins 174 = .ok (.aload_n 0, 1) := by decide +kernel
theorem dX13_joins_175 : decode cX13_joins 175 = .ok (.getfield 17, 3) := by decide +kernel
theorem dX13_joins_178 : decode cX13_joins 178 = .ok (.iload 5, 2) := by decide +kernel
theorem dX13_joins_180 : decode cX13_joins 180 = .ok (.iaload, 1) := by decide +kernel
theorem dX13_joins_181 : decode cX13_joins 181 = .ok (.iload 6, 2) := by decide +kernel
theorem dX13_joins_183 : decode cX13_joins 183 = .ok (.if_icmp .le 31, 3) := by decide +kernel
theorem dX13_joins_186 : decode cX13_joins 186 = .ok (.aload_n 0, 1) := by decide +kernel
theorem dX13_joins_187 : decode cX13_joins 187 = .ok (.getfield 20, 3) := by decide +kernel
theorem dX13_joins_190 : decode cX13_joins 190 = .ok (.bipush 60, 2) := by decide +kernel
theorem dX13_joins_192 : decode cX13_joins 192 = .ok (.iload_n 1, 1) := by decide +kernel
theorem dX13_joins_193 : decode cX13_joins 193 = .ok (.imul, 1) := by decide +kernel
theorem dX13_joins_194 : decode cX13_joins 194 = .ok (.aload_n 0, 1) := by decide +kernel
theorem dX13_joins_195 : decode cX13_joins 195 = .ok (.getfield 17, 3) := by decide +kernel
theorem dX13_joins_198 : decode cX13_joins 198 = .ok (.iload_n 1, 1) := by decide +kernel
theorem dX13_joins_199 : decode cX13_joins 199 = .ok (.iaload, 1) := by decide +kernel
theorem dX13_joins_200 : decode cX13_joins 200 = .ok (.iadd, 1) := by decide +kernel
theorem dX13_joins_201 : decode cX13_joins 201 = .ok (.bipush 32, 2) := by decide +kernel
theorem dX13_joins_203 : decode cX13_joins 203 = .ok (.iastore, 1) := by decide +kernel
theorem dX13_joins_204 : decode cX13_joins 204 = .ok (.aload_n 0, 1) := by decide +kernel
theorem dX13_joins_205 : decode cX13_joins 205 = .ok (.getfield 17, 3) := by decide +kernel
theorem dX13_joins_208 : decode cX13_joins 208 = .ok (.iload_n 1, 1) := by decide +kernel
theorem dX13_joins_209 : decode cX13_joins 209 = .ok (.dup2, 1) := by decide +kernel
theorem dX13_joins_210 : decode cX13_joins 210 = .ok (.iaload, 1) := by decide +kernel
theorem dX13_joins_211 : decode cX13_joins 211 = .ok (.iconst 1, 1) := by decide +kernel
theorem dX13_joins_212 : decode cX13_joins 212 = .ok (.iadd, 1) := by decide +kernel
theorem dX13_joins_213 : decode cX13_joins 213 = .ok (.iastore, 1) := by decide +kernel
theorem dX13_joins_214 : decode cX13_joins 214 = .ok (.iload 6, 2) := by decide +kernel
theorem dX13_joins_216 : decode cX13_joins 216 = .ok (.istore 7, 2) := by decide +kernel
theorem dX13_joins_218 : decode cX13_joins 218 = .ok (.iload 7, 2) := by decide +kernel
theorem dX13_joins_220 : decode cX13_joins 220 = .ok (.aload_n 0, 1) := by decide +kernel
theorem dX13_joins_221 : decode cX13_joins 221 = .ok (.getfield 17, 3) := by decide +kernel
theorem dX13_joins_224 : decode cX13_joins 224 = .ok (.iload 5, 2) := by decide +kernel
theorem dX13_joins_226 : decode cX13_joins 226 = .ok (.iaload, 1) := by decide +kernel
theorem dX13_joins_227 : decode cX13_joins 227 = .ok (.if_icmp .ge 43, 3) := by decide +kernel
theorem dX13_joins_230 : decode cX13_joins 230 = .ok (.aload_n 0, 1) := by decide +kernel
theorem dX13_joins_231 : decode cX13_joins 231 = .ok (.getfield 20, 3) := by decide +kernel
theorem dX13_joins_234 : decode cX13_joins 234 = .ok (.bipush 60, 2) := by decide +kernel
theorem dX13_joins_236 : decode cX13_joins 236 = .ok (.iload_n 1, 1) := by decide +kernel
theorem dX13_joins_237 : decode cX13_joins 237 = .ok (.imul, 1) := by decide +kernel
theorem dX13_joins_238 : decode cX13_joins 238 = .ok (.aload_n 0, 1) := by decide +kernel
theorem dX13_joins_239 : decode cX13_joins 239 = .ok (.getfield 17, 3) := by decide +kernel
theorem dX13_joins_242 : decode cX13_joins 242 = .ok (.iload_n 1, 1) := by decide +kernel
theorem dX13_joins_243 : decode cX13_joins 243 = .ok (.iaload, 1) := by decide +kernel
theorem dX13_joins_244 : decode cX13_joins 244 = .ok (.iadd, 1) := by decide +kernel
theorem dX13_joins_245 : decode cX13_joins 245 = .ok (.aload_n 0, 1) := by decide +kernel
theorem dX13_joins_246 : decode cX13_joins 246 = .ok (.iload 5, 2) := by decide +kernel
theorem dX13_joins_248 : decode cX13_joins 248 = .ok (.iload 7, 2) := by decide +kernel
theorem dX13_joins_250 : decode cX13_joins 250 = .ok (.invokevirtual 206, 3) := by decide +kernel
theorem dX13_joins_253 : decode cX13_joins 253 = .ok (.iastore, 1) := by decide +kernel
theorem dX13_joins_254 : decode cX13_joins 254 = .ok (.aload_n 0, 1) := by decide +kernel
theorem dX13_joins_255 : decode cX13_joins 255 = .ok (.getfield 17, 3) := by decide +kernel
theorem dX13_joins_258 : decode cX13_joins 258 = .ok (.iload_n 1, 1) := by decide +kernel
theorem dX13_joins_259 : decode cX13_joins 259 = .ok (.dup2, 1) := by decide +kernel
theorem dX13_joins_260 : decode cX13_joins 260 = .ok (.iaload, 1) := by decide +kernel
theorem dX13_joins_261 : decode cX13_joins 261 = .ok (.iconst 1, 1) := by decide +kernel
theorem dX13_joins_262 : decode cX13_joins 262 = .ok (.iadd, 1) := by decide +kernel
theorem dX13_joins_263 : decode cX13_joins 263 = .ok (.iastore, 1) := by decide +kernel
theorem dX13_joins_264 : decode cX13_joins 264 = .ok (.iinc 7 1, 3) := by decide +kernel
theorem dX13_joins_267 : decode cX13_joins 267 = .ok (.goto (-49), 3) := by decide +kernel
theorem dX13_joins_270 : decode cX13_joins 270 = .ok (.iinc 5 1, 3) := by decide +kernel
theorem dX13_joins_273 : decode cX13_joins 273 = .ok (.goto (-150), 3) := by decide +kernel
theorem dX13_joins_276 : decode cX13_joins 276 = .ok (.aload_n 0, 1) := by decide +kernel
theorem dX13_joins_277 : decode cX13_joins 277 = .ok (.iload_n 1, 1) := by decide +kernel
theorem dX13_joins_278 : decode cX13_joins 278 = .ok (.iconst 1, 1) := by decide +kernel
theorem dX13_joins_279 : decode cX13_joins 279 = .ok (.iadd, 1) := by decide +kernel
theorem dX13_joins_280 : decode cX13_joins 280 = .ok (.iload_n 1, 1) := by decide +kernel
theorem dX13_joins_281 : decode cX13_joins 281 = .ok (.iload_n 2, 1) := by decide +kernel
theorem dX13_joins_282 : decode cX13_joins 282 = .ok (.iadd, 1) := by decide +kernel
theorem dX13_joins_283 : decode cX13_joins 283 = .ok (.iconst 1, 1) := by decide +kernel
theorem dX13_joins_284 : decode cX13_joins 284 = .ok (.isub, 1) := by decide +kernel
theorem dX13_joins_285 : decode cX13_joins 285 = .ok (.invokevirtual 272, 3) := by decide +kernel
theorem dX13_joins_288 : decode cX13_joins 288 = .ok (.aload_n 0, 1) := by decide +kernel
theorem dX13_joins_289 : decode cX13_joins 289 = .ok (.iload_n 1, 1) := by decide +kernel
theorem dX13_joins_290 : decode cX13_joins 290 = .ok (.iload 4, 2) := by decide +kernel
theorem dX13_joins_292 : decode cX13_joins 292 = .ok (.invokevirtual 510, 3) := by decide +kernel
theorem dX13_joins_295 : decode cX13_joins 295 = .ok (.iconst 1, 1) := by decide +kernel
theorem dX13_joins_296 : decode cX13_joins 296 = .ok (.ireturn, 1) := by decide +kernel
theorem dX13_replaces_0 : decode cX13_replaces 0 = .ok (.aload_n 0, 1) := by decide +kernel
theorem dX13_replaces_1 : decode cX13_replaces 1 = .ok (.getfield 216, 3) := by decide +kernel
theorem dX13_replaces_4 : decode cX13_replaces 4 = .ok (.iload_n 2, 1) := by decide +kernel
theorem dX13_replaces_5 : decode cX13_replaces 5 = .ok (.iadd, 1) := by decide +kernel
theorem dX13_replaces_6 : decode cX13_replaces 6 = .ok (.aload_n 0, 1) := by decide +kernel
theorem dX13_replaces_7 : decode cX13_replaces 7 = .ok (.getfield 17, 3) := by decide +kernel
theorem dX13_replaces_10 : decode cX13_replaces 10 = .ok (.aload_n 0, 1) := by decide +kernel
theorem dX13_replaces_11 : decode cX13_replaces 11 = .ok (.getfield 213, 3) := by decide +kernel
theorem dX13_replaces_14 : decode cX13_replaces 14 = .ok (.iaload, 1) := by decide +kernel
theorem dX13_replaces_15 : decode cX13_replaces 15 = .ok (.if_icmp .le 5, 3) := by decide +kernel
theorem dX13_replaces_18 : decode cX13_replaces 18 = .ok (.iconst 0, 1) := by decide +kernel
theorem dX13_replaces_19 : decode cX13_replaces 19 = .ok (.ireturn, 1) := by decide +kernel
theorem dX13_replaces_20 : decode cX13_replaces 20 = .ok (.aload_n 0, 1) := by decide +kernel
theorem dX13_replaces_21 : decode cX13_replaces 21 = .ok (.getfield 216, 3) := by decide +kernel
theorem dX13_replaces_24 : decode cX13_replaces 24 = .ok (.istore_n 3, 1) := by decide +kernel
theorem dX13_replaces_25 : decode cX13_replaces 25 = .ok (.iload_n 3, 1) := by decide +kernel
theorem dX13_replaces_26 : decode cX13_replaces 26 = .ok (.aload_n 0, 1) := by decide +kernel
theorem dX13_replaces_27 : decode cX13_replaces 27 = .ok (.getfield 216, 3) := by decide +kernel
theorem dX13_replaces_30 : decode cX13_replaces 30 = .ok (.iload_n 2, 1) := by decide +kernel
theorem dX13_replaces_31 : decode cX13_replaces 31 = .ok (.iadd, 1) := by decide +kernel
theorem dX13_replaces_32 : decode cX13_replaces 32 = .ok (.if_icmp .ge 24, 3) := by decide +kernel
theorem dX13_replaces_35 : decode cX13_replaces 35 = .ok (.aload_n 0, 1) := by decide +kernel
theorem dX13_replaces_36 : decode cX13_replaces 36 = .ok (.getfield 20, 3) := by decide +kernel
theorem dX13_replaces_39 : decode cX13_replaces 39 = .ok (.bipush 60, 2) := by decide +kernel
theorem dX13_replaces_41 : decode cX13_replaces 41 = .ok (.aload_n 0, 1) := by decide +kernel
theorem dX13_replaces_42 : decode cX13_replaces 42 = .ok (.getfield 213, 3) := by decide +kernel
theorem dX13_replaces_45 : decode cX13_replaces 45 = .ok (.imul, 1) := by decide +kernel
theorem dX13_replaces_46 : decode cX13_replaces 46 = .ok (.iload_n 3, 1) := by decide +kernel
theorem dX13_replaces_47 : decode cX13_replaces 47 = .ok (.iadd, 1) := by decide +kernel
theorem dX13_replaces_48 : decode cX13_replaces 48 = .ok (.iload_n 1, 1) := by decide +kernel
theorem dX13_replaces_49 : decode cX13_replaces 49 = .ok (.iastore, 1) := by decide +kernel
theorem dX13_replaces_50 : decode cX13_replaces 50 = .ok (.iinc 3 1, 3) := by decide +kernel
theorem dX13_replaces_53 : decode cX13_replaces 53 = .ok (.goto (-28), 3) := by decide +kernel
theorem dX13_replaces_56 : decode cX13_replaces 56 = .ok (.aload_n 0, 1) := by decide +kernel
theorem dX13_replaces_57 : decode cX13_replaces 57 = .ok (.aload_n 0, 1) := by decide +kernel
theorem dX13_replaces_58 : decode cX13_replaces 58 = .ok (.getfield 213, 3) := by decide +kernel
theorem dX13_replaces_61 : decode cX13_replaces 61 = .ok (.aload_n 0, 1) := by decide +kernel
theorem dX13_replaces_62 : decode cX13_replaces 62 = .ok (.getfield 216, 3) := by decide +kernel
theorem dX13_replaces_65 : decode cX13_replaces 65 = .ok (.iload_n 2, 1) := by decide +kernel
theorem dX13_replaces_66 : decode cX13_replaces 66 = .ok (.iadd, 1) := by decide +kernel
theorem dX13_replaces_67 : decode cX13_replaces 67 = .ok (.iconst 1, 1) := by decide +kernel
theorem dX13_replaces_68 : decode cX13_replaces 68 = .ok (.isub, 1) := by decide +kernel
theorem dX13_replaces_69 : decode cX13_replaces 69 = .ok (.invokevirtual 226, 3) := by decide +kernel
theorem dX13_replaces_72 : decode cX13_replaces 72 = .ok (.iconst 1, 1) := by decide +kernel
theorem dX13_replaces_73 : decode cX13_replaces 73 = .ok (.ireturn, 1) := by decide +kernel
theorem dX13_turnsSigns_0 : decode cX13_turnsSigns 0 = .ok (.aload_n 0, 1) := by decide +kernel
theorem dX13_turnsSigns_1 : decode cX13_turnsSigns 1 = .ok (.getfield 17, 3) := by decide +kernel
theorem dX13_turnsSigns_4 : decode cX13_turnsSigns 4 = .ok (.aload_n 0, 1) := by decide +kernel
theorem dX13_turnsSigns_5 : decode cX13_turnsSigns 5 = .ok (.getfield 213, 3) := by decide +kernel
theorem dX13_turnsSigns_8 : decode cX13_turnsSigns 8 = .ok (.iaload, 1) := by decide +kernel
theorem dX13_turnsSigns_9 : decode cX13_turnsSigns 9 = .ok (.ifCond .ne 5, 3) := by decide +kernel
theorem dX13_turnsSigns_12 : decode cX13_turnsSigns 12 = .ok (.iconst 0, 1) := by decide +kernel
theorem dX13_turnsSigns_13 : decode cX13_turnsSigns 13 = .ok (.ireturn, 1) := by decide +kernel
theorem dX13_turnsSigns_14 : decode cX13_turnsSigns 14 = .ok (.aload_n 0, 1) := by decide +kernel
theorem dX13_turnsSigns_15 : decode cX13_turnsSigns 15 = .ok (.getfield 216, 3) := by decide +kernel
theorem dX13_turnsSigns_18 : decode cX13_turnsSigns 18 = .ok (.iload_n 1, 1) := by decide +kernel
theorem dX13_turnsSigns_19 : decode cX13_turnsSigns 19 = .ok (.iadd, 1) := by decide +kernel
theorem dX13_turnsSigns_20 : decode cX13_turnsSigns 20 = .ok (.aload_n 0, 1) := by decide +kernel
theorem dX13_turnsSigns_21 : decode cX13_turnsSigns 21 = .ok (.getfield 17, 3) := by decide +kernel
theorem dX13_turnsSigns_24 : decode cX13_turnsSigns 24 = .ok (.aload_n 0, 1) := by decide +kernel
theorem dX13_turnsSigns_25 : decode cX13_turnsSigns 25 = .ok (.getfield 213, 3) := by decide +kernel
theorem dX13_turnsSigns_28 : decode cX13_turnsSigns 28 = .ok (.iaload, 1) := by decide +kernel
theorem dX13_turnsSigns_29 : decode cX13_turnsSigns 29 = .ok (.invokestatic 257, 3) := by decide +kernel
theorem dX13_turnsSigns_32 : decode cX13_turnsSigns 32 = .ok (.istore_n 2, 1) := by decide +kernel
theorem dX13_turnsSigns_33 : decode cX13_turnsSigns 33 = .ok (.aload_n 0, 1) := by decide +kernel
theorem dX13_turnsSigns_34 : decode cX13_turnsSigns 34 = .ok (.aload_n 0, 1) := by decide +kernel
theorem dX13_turnsSigns_35 : decode cX13_turnsSigns 35 = .ok (.getfield 213, 3) := by decide +kernel
theorem dX13_turnsSigns_38 : decode cX13_turnsSigns 38 = .ok (.aload_n 0, 1) := by decide +kernel
theorem dX13_turnsSigns_39 : decode cX13_turnsSigns 39 = .ok (.getfield 216, 3) := by decide +kernel
theorem dX13_turnsSigns_42 : decode cX13_turnsSigns 42 = .ok (.iload_n 2, 1) := by decide +kernel
theorem dX13_turnsSigns_43 : decode cX13_turnsSigns 43 = .ok (.invokevirtual 523, 3) := by decide +kernel
theorem dX13_turnsSigns_46 : decode cX13_turnsSigns 46 = .ok (.aload_n 0, 1) := by decide +kernel
theorem dX13_turnsSigns_47 : decode cX13_turnsSigns 47 = .ok (.aload_n 0, 1) := by decide +kernel
theorem dX13_turnsSigns_48 : decode cX13_turnsSigns 48 = .ok (.getfield 213, 3) := by decide +kernel
theorem dX13_turnsSigns_51 : decode cX13_turnsSigns 51 = .ok (.iload_n 2, 1) := by decide +kernel
theorem dX13_turnsSigns_52 : decode cX13_turnsSigns 52 = .ok (.invokevirtual 510, 3) := by decide +kernel
theorem dX13_turnsSigns_55 : decode cX13_turnsSigns 55 = .ok (.iconst 1, 1) := by decide +kernel
theorem dX13_turnsSigns_56 : decode cX13_turnsSigns 56 = .ok (.ireturn, 1) := by decide +kernel
theorem dX13_repeats_0 : decode cX13_repeats 0 = .ok (.iconst 0, 1) := by decide +kernel
theorem dX13_repeats_1 : decode cX13_repeats 1 = .ok (.istore_n 3, 1) := by decide +kernel
theorem dX13_repeats_2 : decode cX13_repeats 2 = .ok (.iconst 0, 1) := by decide +kernel
theorem dX13_repeats_3 : decode cX13_repeats 3 = .ok (.istore 4, 2) := by decide +kernel
theorem dX13_repeats_5 : decode cX13_repeats 5 = .ok (.iload 4, 2) := by decide +kernel
theorem dX13_repeats_7 : decode cX13_repeats 7 = .ok (.iload_n 2, 1) := by decide +kernel
theorem dX13_repeats_8 : decode cX13_repeats 8 = .ok (.if_icmp .ge 60, 3) := by decide +kernel
theorem dX13_repeats_11 : decode cX13_repeats 11 = .ok (.iconst 0, 1) := by decide +kernel
theorem dX13_repeats_12 : decode cX13_repeats 12 = .ok (.istore 5, 2) := by decide +kernel
theorem dX13_repeats_14 : decode cX13_repeats 14 = .ok (.iload 5, 2) := by decide +kernel
theorem dX13_repeats_16 : decode cX13_repeats 16 = .ok (.aload_n 0, 1) := by decide +kernel
theorem dX13_repeats_17 : decode cX13_repeats 17 = .ok (.getfield 26, 3) := by decide +kernel
theorem dX13_repeats_20 : decode cX13_repeats 20 = .ok (.iload_n 1, 1) := by decide +kernel
theorem dX13_repeats_21 : decode cX13_repeats 21 = .ok (.iaload, 1) := by decide +kernel
theorem dX13_repeats_22 : decode cX13_repeats 22 = .ok (.if_icmp .ge 40, 3) := by decide +kernel
theorem dX13_repeats_25 : decode cX13_repeats 25 = .ok (.iload_n 3, 1) := by decide +kernel
theorem dX13_repeats_26 : decode cX13_repeats 26 = .ok (.sipush 2600, 3) := by decide +kernel
theorem dX13_repeats_29 : decode cX13_repeats 29 = .ok (.if_icmp .ne 5, 3) := by decide +kernel
theorem dX13_repeats_32 : decode cX13_repeats 32 = .ok (.iconst (-1), 1) := by decide +kernel
theorem dX13_repeats_33 : decode cX13_repeats 33 = .ok (.ireturn, 1) := by decide +kernel
theorem dX13_repeats_34 : decode cX13_repeats 34 = .ok (.aload_n 0, 1) := by decide +kernel
theorem dX13_repeats_35 : decode cX13_repeats 35 = .ok (.getfield 83, 3) := by decide +kernel
theorem dX13_repeats_38 : decode cX13_repeats 38 = .ok (.iload_n 3, 1) := by decide +kernel
theorem dX13_repeats_39 : decode cX13_repeats 39 = .ok (.aload_n 0, 1) := by decide +kernel
theorem dX13_repeats_40 : decode cX13_repeats 40 = .ok (.getfield 30, 3) := by decide +kernel
theorem dX13_repeats_43 : decode cX13_repeats 43 = .ok (.sipush 3000, 3) := by decide +kernel
theorem dX13_repeats_46 : decode cX13_repeats 46 = .ok (.iload_n 1, 1) := by decide +kernel
theorem dX13_repeats_47 : decode cX13_repeats 47 = .ok (.imul, 1) := by decide +kernel
theorem dX13_repeats_48 : decode cX13_repeats 48 = .ok (.iload 5, 2) := by decide +kernel
theorem dX13_repeats_50 : decode cX13_repeats 50 = .ok (.iadd, 1) := by decide +kernel
theorem dX13_repeats_51 : decode cX13_repeats 51 = .ok (.iaload, 1) := by decide +kernel
theorem dX13_repeats_52 : decode cX13_repeats 52 = .ok (.iastore, 1) := by decide +kernel
theorem dX13_repeats_53 : decode cX13_repeats 53 = .ok (.iinc 3 1, 3) := by decide +kernel
theorem dX13_repeats_56 : decode cX13_repeats 56 = .ok (.iinc 5 1, 3) := by decide +kernel
theorem dX13_repeats_59 : decode cX13_repeats 59 = .ok (.goto (-45), 3) := by decide +kernel
theorem dX13_repeats_62 : decode cX13_repeats 62 = .ok (.iinc 4 1, 3) := by decide +kernel
theorem dX13_repeats_65 : decode cX13_repeats 65 = .ok (.goto (-60), 3) := by decide +kernel
theorem dX13_repeats_68 : decode cX13_repeats 68 = .ok (.iload_n 3, 1) := by decide +kernel
theorem dX13_repeats_69 : decode cX13_repeats 69 = .ok (.ireturn, 1) := by decide +kernel
theorem dX13_putsOfSigns_0 : decode cX13_putsOfSigns 0 = .ok (.aload_n 0, 1) := by decide +kernel
theorem dX13_putsOfSigns_1 : decode cX13_putsOfSigns 1 = .ok (.iload_n 1, 1) := by decide +kernel
theorem dX13_putsOfSigns_2 : decode cX13_putsOfSigns 2 = .ok (.iload_n 2, 1) := by decide +kernel
theorem dX13_putsOfSigns_3 : decode cX13_putsOfSigns 3 = .ok (.invokevirtual 554, 3) := by decide +kernel
theorem dX13_putsOfSigns_6 : decode cX13_putsOfSigns 6 = .ok (.istore 4, 2) := by decide +kernel
theorem dX13_putsOfSigns_8 : decode cX13_putsOfSigns 8 = .ok (.iload 4, 2) := by decide +kernel
theorem dX13_putsOfSigns_10 : decode cX13_putsOfSigns 10 = .ok (.iconst (-1), 1) := by decide +kernel
theorem dX13_putsOfSigns_11 : decode cX13_putsOfSigns 11 = .ok (.if_icmp .eq 17, 3) := by decide +kernel
theorem dX13_putsOfSigns_14 : decode cX13_putsOfSigns 14 = .ok (.aload_n 0, 1) := by decide +kernel
theorem dX13_putsOfSigns_15 : decode cX13_putsOfSigns 15 = .ok (.aload_n 0, 1) := by decide +kernel
theorem dX13_putsOfSigns_16 : decode cX13_putsOfSigns 16 = .ok (.getfield 213, 3) := by decide +kernel
theorem dX13_putsOfSigns_19 : decode cX13_putsOfSigns 19 = .ok (.iload_n 3, 1) := by decide +kernel
theorem dX13_putsOfSigns_20 : decode cX13_putsOfSigns 20 = .ok (.iload 4, 2) := by decide +kernel
theorem dX13_putsOfSigns_22 : decode cX13_putsOfSigns 22 = .ok (.invokevirtual 557, 3) := by decide +kernel
theorem dX13_putsOfSigns_25 : decode cX13_putsOfSigns 25 = .ok (.ifCond .ne 5, 3) := by decide +kernel
theorem dX13_putsOfSigns_28 : decode cX13_putsOfSigns 28 = .ok (.iconst 0, 1) := by decide +kernel
theorem dX13_putsOfSigns_29 : decode cX13_putsOfSigns 29 = .ok (.ireturn, 1) := by decide +kernel
theorem dX13_putsOfSigns_30 : decode cX13_putsOfSigns 30 = .ok (.aload_n 0, 1) := by decide +kernel
theorem dX13_putsOfSigns_31 : decode cX13_putsOfSigns 31 = .ok (.getfield 213, 3) := by decide +kernel
theorem dX13_putsOfSigns_34 : decode cX13_putsOfSigns 34 = .ok (.istore 5, 2) := by decide +kernel
theorem dX13_putsOfSigns_36 : decode cX13_putsOfSigns 36 = .ok (.aload_n 0, 1) := by decide +kernel
theorem dX13_putsOfSigns_37 : decode cX13_putsOfSigns 37 = .ok (.iload 4, 2) := by decide +kernel
theorem dX13_putsOfSigns_39 : decode cX13_putsOfSigns 39 = .ok (.invokevirtual 275, 3) := by decide +kernel
theorem dX13_putsOfSigns_42 : decode cX13_putsOfSigns 42 = .ok (.istore 6, 2) := by decide +kernel
theorem dX13_putsOfSigns_44 : decode cX13_putsOfSigns 44 = .ok (.aload_n 0, 1) := by decide +kernel
theorem dX13_putsOfSigns_45 : decode cX13_putsOfSigns 45 = .ok (.iload 5, 2) := by decide +kernel
theorem dX13_putsOfSigns_47 : decode cX13_putsOfSigns 47 = .ok (.iload_n 3, 1) := by decide +kernel
theorem dX13_putsOfSigns_48 : decode cX13_putsOfSigns 48 = .ok (.iload 4, 2) := by decide +kernel
theorem dX13_putsOfSigns_50 : decode cX13_putsOfSigns 50 = .ok (.invokevirtual 513, 3) := by decide +kernel
theorem dX13_putsOfSigns_53 : decode cX13_putsOfSigns 53 = .ok (.aload_n 0, 1) := by decide +kernel
theorem dX13_putsOfSigns_54 : decode cX13_putsOfSigns 54 = .ok (.iload 5, 2) := by decide +kernel
theorem dX13_putsOfSigns_56 : decode cX13_putsOfSigns 56 = .ok (.iload 6, 2) := by decide +kernel
theorem dX13_putsOfSigns_58 : decode cX13_putsOfSigns 58 = .ok (.ifCond .le 7, 3) := by decide +kernel
theorem dX13_putsOfSigns_61 : decode cX13_putsOfSigns 61 = .ok (.iload_n 3, 1) := by decide +kernel
theorem dX13_putsOfSigns_62 : decode cX13_putsOfSigns 62 = .ok (.goto 9, 3) := by decide +kernel
theorem dX13_putsOfSigns_65 : decode cX13_putsOfSigns 65 = .ok (.iload_n 3, 1) := by decide +kernel
theorem dX13_putsOfSigns_66 : decode cX13_putsOfSigns 66 = .ok (.iload 4, 2) := by decide +kernel
theorem dX13_putsOfSigns_68 : decode cX13_putsOfSigns 68 = .ok (.iadd, 1) := by decide +kernel
theorem dX13_putsOfSigns_69 : decode cX13_putsOfSigns 69 = .ok (.iconst 1, 1) := by decide +kernel
theorem dX13_putsOfSigns_70 : decode cX13_putsOfSigns 70 = .ok (.isub, 1) := by decide +kernel
theorem dX13_putsOfSigns_71 : decode cX13_putsOfSigns 71 = .ok (.invokevirtual 510, 3) := by decide +kernel
theorem dX13_putsOfSigns_74 : decode cX13_putsOfSigns 74 = .ok (.iconst 1, 1) := by decide +kernel
theorem dX13_putsOfSigns_75 : decode cX13_putsOfSigns 75 = .ok (.ireturn, 1) := by decide +kernel
theorem dX13_putsOfLines_0 : decode cX13_putsOfLines 0 = .ok (.aload_n 0, 1) := by decide +kernel
theorem dX13_putsOfLines_1 : decode cX13_putsOfLines 1 = .ok (.iload_n 1, 1) := by decide +kernel
theorem dX13_putsOfLines_2 : decode cX13_putsOfLines 2 = .ok (.iload_n 2, 1) := by decide +kernel
theorem dX13_putsOfLines_3 : decode cX13_putsOfLines 3 = .ok (.invokevirtual 554, 3) := by decide +kernel
theorem dX13_putsOfLines_6 : decode cX13_putsOfLines 6 = .ok (.istore 4, 2) := by decide +kernel
theorem dX13_putsOfLines_8 : decode cX13_putsOfLines 8 = .ok (.iconst 0, 1) := by decide +kernel
theorem dX13_putsOfLines_9 : decode cX13_putsOfLines 9 = .ok (.istore 5, 2) := by decide +kernel
theorem dX13_putsOfLines_11 : decode cX13_putsOfLines 11 = .ok (.iload 4, 2) := by decide +kernel
theorem dX13_putsOfLines_13 : decode cX13_putsOfLines 13 = .ok (.iconst (-1), 1) := by decide +kernel
theorem dX13_putsOfLines_14 : decode cX13_putsOfLines 14 = .ok (.if_icmp .eq 23, 3) := by decide +kernel
theorem dX13_putsOfLines_17 : decode cX13_putsOfLines 17 = .ok (.aload_n 0, 1) := by decide +kernel
theorem dX13_putsOfLines_18 : decode cX13_putsOfLines 18 = .ok (.getfield 13, 3) := by decide +kernel
theorem dX13_putsOfLines_21 : decode cX13_putsOfLines 21 = .ok (.aload_n 0, 1) := by decide +kernel
theorem dX13_putsOfLines_22 : decode cX13_putsOfLines 22 = .ok (.iload 4, 2) := by decide +kernel
theorem dX13_putsOfLines_24 : decode cX13_putsOfLines 24 = .ok (.invokevirtual 275, 3) := by decide +kernel
theorem dX13_putsOfLines_27 : decode cX13_putsOfLines 27 = .ok (.iadd, 1) := by decide +kernel
theorem dX13_putsOfLines_28 : decode cX13_putsOfLines 28 = .ok (.bipush 40, 2) := by decide +kernel
theorem dX13_putsOfLines_30 : decode cX13_putsOfLines 30 = .ok (.if_icmp .gt 7, 3) := by decide +kernel
theorem dX13_putsOfLines_33 : decode cX13_putsOfLines 33 = .ok (.iconst 1, 1) := by decide +kernel
theorem dX13_putsOfLines_34 : decode cX13_putsOfLines 34 = .ok (.goto 4, 3) := by decide +kernel
theorem dX13_putsOfLines_37 : decode cX13_putsOfLines 37 = .ok (.iconst 0, 1) := by decide +kernel
theorem dX13_putsOfLines_38 : decode cX13_putsOfLines 38 = .ok (.istore 6, 2) := by decide +kernel
theorem dX13_putsOfLines_40 : decode cX13_putsOfLines 40 = .ok (.iconst 0, 1) := by decide +kernel
theorem dX13_putsOfLines_41 : decode cX13_putsOfLines 41 = .ok (.istore 7, 2) := by decide +kernel
theorem dX13_putsOfLines_43 : decode cX13_putsOfLines 43 = .ok (.iload 7, 2) := by decide +kernel
theorem dX13_putsOfLines_45 : decode cX13_putsOfLines 45 = .ok (.iload 4, 2) := by decide +kernel
theorem dX13_putsOfLines_47 : decode cX13_putsOfLines 47 = .ok (.if_icmp .ge 75, 3) := by decide +kernel
theorem dX13_putsOfLines_50 : decode cX13_putsOfLines 50 = .ok (.iload 6, 2) := by decide +kernel
theorem dX13_putsOfLines_52 : decode cX13_putsOfLines 52 = .ok (.ifCond .eq 70, 3) := by decide +kernel
theorem dX13_putsOfLines_55 : decode cX13_putsOfLines 55 = .ok (.aload_n 0, 1) := by decide +kernel
theorem dX13_putsOfLines_56 : decode cX13_putsOfLines 56 = .ok (.getfield 83, 3) := by decide +kernel
theorem dX13_putsOfLines_59 : decode cX13_putsOfLines 59 = .ok (.iload 7, 2) := by decide +kernel
theorem dX13_putsOfLines_61 : decode cX13_putsOfLines 61 = .ok (.iaload, 1) := by decide +kernel
theorem dX13_putsOfLines_62 : decode cX13_putsOfLines 62 = .ok (.bipush 10, 2) := by decide +kernel
theorem dX13_putsOfLines_64 : decode cX13_putsOfLines 64 = .ok (.if_icmp .ne 7, 3) := by decide +kernel
theorem dX13_putsOfLines_67 : decode cX13_putsOfLines 67 = .ok (.iconst 0, 1) := by decide +kernel
theorem dX13_putsOfLines_68 : decode cX13_putsOfLines 68 = .ok (.goto 7, 3) := by decide +kernel
theorem dX13_putsOfLines_71 : decode cX13_putsOfLines 71 = .ok (.iload 5, 2) := by decide +kernel
theorem dX13_putsOfLines_73 : decode cX13_putsOfLines 73 = .ok (.iconst 1, 1) := by decide +kernel
theorem dX13_putsOfLines_74 : decode cX13_putsOfLines 74 = .ok (.iadd, 1) := by decide +kernel
theorem dX13_putsOfLines_75 : decode cX13_putsOfLines 75 = .ok (.istore 5, 2) := by decide +kernel
theorem dX13_putsOfLines_77 : decode cX13_putsOfLines 77 = .ok (.iload 5, 2) := by decide +kernel
theorem dX13_putsOfLines_79 : decode cX13_putsOfLines 79 = .ok (.bipush 60, 2) := by decide +kernel
theorem dX13_putsOfLines_81 : decode cX13_putsOfLines 81 = .ok (.if_icmp .gt 32, 3) := by decide +kernel
theorem dX13_putsOfLines_84 : decode cX13_putsOfLines 84 = .ok (.aload_n 0, 1) := by decide +kernel
theorem dX13_putsOfLines_85 : decode cX13_putsOfLines 85 = .ok (.getfield 83, 3) := by decide +kernel
theorem dX13_putsOfLines_88 : decode cX13_putsOfLines 88 = .ok (.iload 7, 2) := by decide +kernel
theorem dX13_putsOfLines_90 : decode cX13_putsOfLines 90 = .ok (.iaload, 1) := by decide +kernel
theorem dX13_putsOfLines_91 : decode cX13_putsOfLines 91 = .ok (.bipush 10, 2) := by decide +kernel
theorem dX13_putsOfLines_93 : decode cX13_putsOfLines 93 = .ok (.if_icmp .eq 16, 3) := by decide +kernel
theorem dX13_putsOfLines_96 : decode cX13_putsOfLines 96 = .ok (.aload_n 0, 1) := by decide +kernel
theorem dX13_putsOfLines_97 : decode cX13_putsOfLines 97 = .ok (.getfield 83, 3) := by decide +kernel
theorem dX13_putsOfLines_100 : decode cX13_putsOfLines 100 = .ok (.iload 7, 2) := by decide +kernel
theorem dX13_putsOfLines_102 : decode cX13_putsOfLines 102 = .ok (.iaload, 1) := by decide +kernel
theorem dX13_putsOfLines_103 : decode cX13_putsOfLines 103 = .ok (.invokestatic 202, 3) := by decide +kernel
theorem dX13_putsOfLines_106 : decode cX13_putsOfLines 106 = .ok (.ifCond .eq 7, 3) := by decide +kernel
theorem dX13_putsOfLines_109 : decode cX13_putsOfLines 109 = .ok (.iconst 1, 1) := by decide +kernel
theorem dX13_putsOfLines_110 : decode cX13_putsOfLines 110 = .ok (.goto 4, 3) := by decide +kernel
theorem dX13_putsOfLines_113 : decode cX13_putsOfLines 113 = .ok (.iconst 0, 1) := by decide +kernel
theorem dX13_putsOfLines_114 : decode cX13_putsOfLines 114 = .ok (.istore 6, 2) := by decide +kernel
theorem dX13_putsOfLines_116 : decode cX13_putsOfLines 116 = .ok (.iinc 7 1, 3) := by decide +kernel
theorem dX13_putsOfLines_119 : decode cX13_putsOfLines 119 = .ok (.goto (-76), 3) := by decide +kernel
theorem dX13_putsOfLines_122 : decode cX13_putsOfLines 122 = .ok (.iload 6, 2) := by decide +kernel
theorem dX13_putsOfLines_124 : decode cX13_putsOfLines 124 = .ok (.ifCond .ne 5, 3) := by decide +kernel
theorem dX13_putsOfLines_127 : decode cX13_putsOfLines 127 = .ok (.iconst 0, 1) := by decide +kernel
theorem dX13_putsOfLines_128 : decode cX13_putsOfLines 128 = .ok (.ireturn, 1) := by decide +kernel
theorem dX13_putsOfLines_129 : decode cX13_putsOfLines 129 = .ok (.aload_n 0, 1) := by decide +kernel
theorem dX13_putsOfLines_130 : decode cX13_putsOfLines 130 = .ok (.iload_n 3, 1) := by decide +kernel
theorem dX13_putsOfLines_131 : decode cX13_putsOfLines 131 = .ok (.aload_n 0, 1) := by decide +kernel
theorem dX13_putsOfLines_132 : decode cX13_putsOfLines 132 = .ok (.iload 4, 2) := by decide +kernel
theorem dX13_putsOfLines_134 : decode cX13_putsOfLines 134 = .ok (.invokevirtual 275, 3) := by decide +kernel
theorem dX13_putsOfLines_137 : decode cX13_putsOfLines 137 = .ok (.invokevirtual 278, 3) := by decide +kernel
theorem dX13_putsOfLines_140 : decode cX13_putsOfLines 140 = .ok (.iload_n 3, 1) := by decide +kernel
theorem dX13_putsOfLines_141 : decode cX13_putsOfLines 141 = .ok (.istore 5, 2) := by decide +kernel
theorem dX13_putsOfLines_143 : decode cX13_putsOfLines 143 = .ok (.iconst 0, 1) := by decide +kernel
theorem dX13_putsOfLines_144 : decode cX13_putsOfLines 144 = .ok (.istore 7, 2) := by decide +kernel
theorem dX13_putsOfLines_146 : decode cX13_putsOfLines 146 = .ok (.iload 7, 2) := by decide +kernel
theorem dX13_putsOfLines_148 : decode cX13_putsOfLines 148 = .ok (.iload 4, 2) := by decide +kernel
theorem dX13_putsOfLines_150 : decode cX13_putsOfLines 150 = .ok (.if_icmp .ge 63, 3) := by decide +kernel
theorem dX13_putsOfLines_153 : decode cX13_putsOfLines 153 = .ok (.aload_n 0, 1) := by decide +kernel
theorem dX13_putsOfLines_154 : decode cX13_putsOfLines 154 = .ok (.getfield 83, 3) := by decide +kernel
theorem dX13_putsOfLines_157 : decode cX13_putsOfLines 157 = .ok (.iload 7, 2) := by decide +kernel
theorem dX13_putsOfLines_159 : decode cX13_putsOfLines 159 = .ok (.iaload, 1) := by decide +kernel
theorem dX13_putsOfLines_160 : decode cX13_putsOfLines 160 = .ok (.bipush 10, 2) := by decide +kernel
theorem dX13_putsOfLines_162 : decode cX13_putsOfLines 162 = .ok (.if_icmp .ne 9, 3) := by decide +kernel
theorem dX13_putsOfLines_165 : decode cX13_putsOfLines 165 = .ok (.iinc 5 1, 3) := by decide +kernel
theorem dX13_putsOfLines_168 : decode cX13_putsOfLines 168 = .ok (.goto 39, 3) := by decide +kernel
theorem dX13_putsOfLines_171 : decode cX13_putsOfLines 171 = .ok (.aload_n 0, 1) := by decide +kernel
theorem dX13_putsOfLines_172 : decode cX13_putsOfLines 172 = .ok (.getfield 20, 3) := by decide +kernel
theorem dX13_putsOfLines_175 : decode cX13_putsOfLines 175 = .ok (.bipush 60, 2) := by decide +kernel
theorem dX13_putsOfLines_177 : decode cX13_putsOfLines 177 = .ok (.iload 5, 2) := by decide +kernel
theorem dX13_putsOfLines_179 : decode cX13_putsOfLines 179 = .ok (.imul, 1) := by decide +kernel
theorem dX13_putsOfLines_180 : decode cX13_putsOfLines 180 = .ok (.aload_n 0, 1) := by decide +kernel
theorem dX13_putsOfLines_181 : decode cX13_putsOfLines 181 = .ok (.getfield 17, 3) := by decide +kernel
theorem dX13_putsOfLines_184 : decode cX13_putsOfLines 184 = .ok (.iload 5, 2) := by decide +kernel
theorem dX13_putsOfLines_186 : decode cX13_putsOfLines 186 = .ok (.iaload, 1) := by decide +kernel
theorem dX13_putsOfLines_187 : decode cX13_putsOfLines 187 = .ok (.iadd, 1) := by decide +kernel
theorem dX13_putsOfLines_188 : decode cX13_putsOfLines 188 = .ok (.aload_n 0, 1) := by decide +kernel
theorem dX13_putsOfLines_189 : decode cX13_putsOfLines 189 = .ok (.getfield 83, 3) := by decide +kernel
theorem dX13_putsOfLines_192 : decode cX13_putsOfLines 192 = .ok (.iload 7, 2) := by decide +kernel
theorem dX13_putsOfLines_194 : decode cX13_putsOfLines 194 = .ok (.iaload, 1) := by decide +kernel
theorem dX13_putsOfLines_195 : decode cX13_putsOfLines 195 = .ok (.iastore, 1) := by decide +kernel
theorem dX13_putsOfLines_196 : decode cX13_putsOfLines 196 = .ok (.aload_n 0, 1) := by decide +kernel
theorem dX13_putsOfLines_197 : decode cX13_putsOfLines 197 = .ok (.getfield 17, 3) := by decide +kernel
theorem dX13_putsOfLines_200 : decode cX13_putsOfLines 200 = .ok (.iload 5, 2) := by decide +kernel
theorem dX13_putsOfLines_202 : decode cX13_putsOfLines 202 = .ok (.dup2, 1) := by decide +kernel
theorem dX13_putsOfLines_203 : decode cX13_putsOfLines 203 = .ok (.iaload, 1) := by decide +kernel
theorem dX13_putsOfLines_204 : decode cX13_putsOfLines 204 = .ok (.iconst 1, 1) := by decide +kernel
theorem dX13_putsOfLines_205 : decode cX13_putsOfLines 205 = .ok (.iadd, 1) := by decide +kernel
theorem dX13_putsOfLines_206 : decode cX13_putsOfLines 206 = .ok (.iastore, 1) := by decide +kernel
theorem dX13_putsOfLines_207 : decode cX13_putsOfLines 207 = .ok (.iinc 7 1, 3) := by decide +kernel
theorem dX13_putsOfLines_210 : decode cX13_putsOfLines 210 = .ok (.goto (-64), 3) := by decide +kernel
theorem dX13_putsOfLines_213 : decode cX13_putsOfLines 213 = .ok (.aload_n 0, 1) := by decide +kernel
theorem dX13_putsOfLines_214 : decode cX13_putsOfLines 214 = .ok (.iload_n 3, 1) := by decide +kernel
theorem dX13_putsOfLines_215 : decode cX13_putsOfLines 215 = .ok (.invokevirtual 507, 3) := by decide +kernel
theorem dX13_putsOfLines_218 : decode cX13_putsOfLines 218 = .ok (.iconst 1, 1) := by decide +kernel
theorem dX13_putsOfLines_219 : decode cX13_putsOfLines 219 = .ok (.ireturn, 1) := by decide +kernel
theorem dX13_putsOfRows_0 : decode cX13_putsOfRows 0 = .ok (.iconst 0, 1) := by decide +kernel
theorem dX13_putsOfRows_1 : decode cX13_putsOfRows 1 = .ok (.istore 4, 2) := by decide +kernel
theorem dX13_putsOfRows_3 : decode cX13_putsOfRows 3 = .ok (.iconst 0, 1) := by decide +kernel
theorem dX13_putsOfRows_4 : decode cX13_putsOfRows 4 = .ok (.istore 5, 2) := by decide +kernel
theorem dX13_putsOfRows_6 : decode cX13_putsOfRows 6 = .ok (.iconst 0, 1) := by decide +kernel
theorem dX13_putsOfRows_7 : decode cX13_putsOfRows 7 = .ok (.istore 6, 2) := by decide +kernel
theorem dX13_putsOfRows_9 : decode cX13_putsOfRows 9 = .ok (.iconst 0, 1) := by decide +kernel
theorem dX13_putsOfRows_10 : decode cX13_putsOfRows 10 = .ok (.istore 7, 2) := by decide +kernel
theorem dX13_putsOfRows_12 : decode cX13_putsOfRows 12 = .ok (.iload 7, 2) := by decide +kernel
theorem dX13_putsOfRows_14 : decode cX13_putsOfRows 14 = .ok (.aload_n 0, 1) := by decide +kernel
theorem dX13_putsOfRows_15 : decode cX13_putsOfRows 15 = .ok (.getfield 26, 3) := by decide +kernel
theorem dX13_putsOfRows_18 : decode cX13_putsOfRows 18 = .ok (.iload_n 1, 1) := by decide +kernel
theorem dX13_putsOfRows_19 : decode cX13_putsOfRows 19 = .ok (.iaload, 1) := by decide +kernel
theorem dX13_putsOfRows_20 : decode cX13_putsOfRows 20 = .ok (.if_icmp .ge 73, 3) := by decide +kernel
theorem dX13_putsOfRows_23 : decode cX13_putsOfRows 23 = .ok (.aload_n 0, 1) := by decide +kernel
theorem dX13_putsOfRows_24 : decode cX13_putsOfRows 24 = .ok (.getfield 30, 3) := by decide +kernel
theorem dX13_putsOfRows_27 : decode cX13_putsOfRows 27 = .ok (.sipush 3000, 3) := by decide +kernel
theorem dX13_putsOfRows_30 : decode cX13_putsOfRows 30 = .ok (.iload_n 1, 1) := by decide +kernel
theorem dX13_putsOfRows_31 : decode cX13_putsOfRows 31 = .ok (.imul, 1) := by decide +kernel
theorem dX13_putsOfRows_32 : decode cX13_putsOfRows 32 = .ok (.iload 7, 2) := by decide +kernel
theorem dX13_putsOfRows_34 : decode cX13_putsOfRows 34 = .ok (.iadd, 1) := by decide +kernel
theorem dX13_putsOfRows_35 : decode cX13_putsOfRows 35 = .ok (.iaload, 1) := by decide +kernel
theorem dX13_putsOfRows_36 : decode cX13_putsOfRows 36 = .ok (.bipush 10, 2) := by decide +kernel
theorem dX13_putsOfRows_38 : decode cX13_putsOfRows 38 = .ok (.if_icmp .ne 7, 3) := by decide +kernel
theorem dX13_putsOfRows_41 : decode cX13_putsOfRows 41 = .ok (.iconst 1, 1) := by decide +kernel
theorem dX13_putsOfRows_42 : decode cX13_putsOfRows 42 = .ok (.goto 4, 3) := by decide +kernel
theorem dX13_putsOfRows_45 : decode cX13_putsOfRows 45 = .ok (.iconst 0, 1) := by decide +kernel
theorem dX13_putsOfRows_46 : decode cX13_putsOfRows 46 = .ok (.istore 8, 2) := by decide +kernel
theorem dX13_putsOfRows_48 : decode cX13_putsOfRows 48 = .ok (.iload 4, 2) := by decide +kernel
theorem dX13_putsOfRows_50 : decode cX13_putsOfRows 50 = .ok (.iload 8, 2) := by decide +kernel
theorem dX13_putsOfRows_52 : decode cX13_putsOfRows 52 = .ok (.ifCond .eq 7, 3) := by decide +kernel
theorem dX13_putsOfRows_55 : decode cX13_putsOfRows 55 = .ok (.iconst 1, 1) := by decide +kernel
theorem dX13_putsOfRows_56 : decode cX13_putsOfRows 56 = .ok (.goto 4, 3) := by decide +kernel
theorem dX13_putsOfRows_59 : decode cX13_putsOfRows 59 = .ok (.iconst 0, 1) := by decide +kernel
theorem dX13_putsOfRows_60 : decode cX13_putsOfRows 60 = .ok (.iadd, 1) := by decide +kernel
theorem dX13_putsOfRows_61 : decode cX13_putsOfRows 61 = .ok (.istore 4, 2) := by decide +kernel
theorem dX13_putsOfRows_63 : decode cX13_putsOfRows 63 = .ok (.iload 8, 2) := by decide +kernel
theorem dX13_putsOfRows_65 : decode cX13_putsOfRows 65 = .ok (.ifCond .eq 7, 3) := by decide +kernel
theorem dX13_putsOfRows_68 : decode cX13_putsOfRows 68 = .ok (.iconst 0, 1) := by decide +kernel
theorem dX13_putsOfRows_69 : decode cX13_putsOfRows 69 = .ok (.goto 7, 3) := by decide +kernel
theorem dX13_putsOfRows_72 : decode cX13_putsOfRows 72 = .ok (.iload 5, 2) := by decide +kernel
theorem dX13_putsOfRows_74 : decode cX13_putsOfRows 74 = .ok (.iconst 1, 1) := by decide +kernel
theorem dX13_putsOfRows_75 : decode cX13_putsOfRows 75 = .ok (.iadd, 1) := by decide +kernel
theorem dX13_putsOfRows_76 : decode cX13_putsOfRows 76 = .ok (.istore 5, 2) := by decide +kernel
theorem dX13_putsOfRows_78 : decode cX13_putsOfRows 78 = .ok (.iload 6, 2) := by decide +kernel
theorem dX13_putsOfRows_80 : decode cX13_putsOfRows 80 = .ok (.iload 5, 2) := by decide +kernel
theorem dX13_putsOfRows_82 : decode cX13_putsOfRows 82 = .ok (.invokestatic 210, 3) := by decide +kernel
theorem dX13_putsOfRows_85 : decode cX13_putsOfRows 85 = .ok (.istore 6, 2) := by decide +kernel
theorem dX13_putsOfRows_87 : decode cX13_putsOfRows 87 = .ok (.iinc 7 1, 3) := by decide +kernel
theorem dX13_putsOfRows_90 : decode cX13_putsOfRows 90 = .ok (.goto (-78), 3) := by decide +kernel
theorem dX13_putsOfRows_93 : decode cX13_putsOfRows 93 = .ok (.aload_n 0, 1) := by decide +kernel
theorem dX13_putsOfRows_94 : decode cX13_putsOfRows 94 = .ok (.getfield 213, 3) := by decide +kernel
theorem dX13_putsOfRows_97 : decode cX13_putsOfRows 97 = .ok (.iload 4, 2) := by decide +kernel
theorem dX13_putsOfRows_99 : decode cX13_putsOfRows 99 = .ok (.iadd, 1) := by decide +kernel
theorem dX13_putsOfRows_100 : decode cX13_putsOfRows 100 = .ok (.bipush 40, 2) := by decide +kernel
theorem dX13_putsOfRows_102 : decode cX13_putsOfRows 102 = .ok (.if_icmp .gt 7, 3) := by decide +kernel

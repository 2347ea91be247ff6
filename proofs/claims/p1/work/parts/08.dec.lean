theorem dX6_here_0 : decode cX6_here 0 = .ok (.aload_n 0, 1) := by decide +kernel
theorem dX6_here_1 : decode cX6_here 1 = .ok (.getfield 9, 3) := by decide +kernel
theorem dX6_here_4 : decode cX6_here 4 = .ok (.bipush 100, 2) := by decide +kernel
theorem dX6_here_6 : decode cX6_here 6 = .ok (.imul, 1) := by decide +kernel
theorem dX6_here_7 : decode cX6_here 7 = .ok (.aload_n 0, 1) := by decide +kernel
theorem dX6_here_8 : decode cX6_here 8 = .ok (.getfield 15, 3) := by decide +kernel
theorem dX6_here_11 : decode cX6_here 11 = .ok (.iadd, 1) := by decide +kernel
theorem dX6_here_12 : decode cX6_here 12 = .ok (.ireturn, 1) := by decide +kernel
theorem dX6_go_0 : decode cX6_go 0 = .ok (.aload_n 0, 1) := by decide +kernel
theorem dX6_go_1 : decode cX6_go 1 = .ok (.iconst 0, 1) := by decide +kernel
theorem dX6_go_2 : decode cX6_go 2 = .ok (.iload_n 2, 1) := by decide +kernel
theorem dX6_go_3 : decode cX6_go 3 = .ok (.aload_n 1, 1) := by decide +kernel
theorem dX6_go_4 : decode cX6_go 4 = .ok (.getfield 68, 3) := by decide +kernel
theorem dX6_go_7 : decode cX6_go 7 = .ok (.iconst 1, 1) := by decide +kernel
theorem dX6_go_8 : decode cX6_go 8 = .ok (.isub, 1) := by decide +kernel
theorem dX6_go_9 : decode cX6_go 9 = .ok (.invokestatic 73, 3) := by decide +kernel
theorem dX6_go_12 : decode cX6_go 12 = .ok (.invokestatic 79, 3) := by decide +kernel
theorem dX6_go_15 : decode cX6_go 15 = .ok (.putfield 9, 3) := by decide +kernel
theorem dX6_go_18 : decode cX6_go 18 = .ok (.aload_n 0, 1) := by decide +kernel
theorem dX6_go_19 : decode cX6_go 19 = .ok (.iconst 0, 1) := by decide +kernel
theorem dX6_go_20 : decode cX6_go 20 = .ok (.iload_n 3, 1) := by decide +kernel
theorem dX6_go_21 : decode cX6_go 21 = .ok (.aload_n 1, 1) := by decide +kernel
theorem dX6_go_22 : decode cX6_go 22 = .ok (.aload_n 0, 1) := by decide +kernel
theorem dX6_go_23 : decode cX6_go 23 = .ok (.getfield 9, 3) := by decide +kernel
theorem dX6_go_26 : decode cX6_go 26 = .ok (.invokevirtual 82, 3) := by decide +kernel
theorem dX6_go_29 : decode cX6_go 29 = .ok (.iconst 1, 1) := by decide +kernel
theorem dX6_go_30 : decode cX6_go 30 = .ok (.isub, 1) := by decide +kernel
theorem dX6_go_31 : decode cX6_go 31 = .ok (.invokestatic 73, 3) := by decide +kernel
theorem dX6_go_34 : decode cX6_go 34 = .ok (.invokestatic 79, 3) := by decide +kernel
theorem dX6_go_37 : decode cX6_go 37 = .ok (.putfield 15, 3) := by decide +kernel
theorem dX6_go_40 : decode cX6_go 40 = .ok (.aload_n 0, 1) := by decide +kernel
theorem dX6_go_41 : decode cX6_go 41 = .ok (.aload_n 0, 1) := by decide +kernel
theorem dX6_go_42 : decode cX6_go 42 = .ok (.getfield 15, 3) := by decide +kernel
theorem dX6_go_45 : decode cX6_go 45 = .ok (.putfield 18, 3) := by decide +kernel
theorem dX6_go_48 : decode cX6_go 48 = .ok (.return_, 1) := by decide +kernel
theorem dX6_goToText_0 : decode cX6_goToText 0 = .ok (.aload_n 0, 1) := by decide +kernel
theorem dX6_goToText_1 : decode cX6_goToText 1 = .ok (.iconst 0, 1) := by decide +kernel
theorem dX6_goToText_2 : decode cX6_goToText 2 = .ok (.iload_n 2, 1) := by decide +kernel
theorem dX6_goToText_3 : decode cX6_goToText 3 = .ok (.aload_n 1, 1) := by decide +kernel
theorem dX6_goToText_4 : decode cX6_goToText 4 = .ok (.getfield 68, 3) := by decide +kernel
theorem dX6_goToText_7 : decode cX6_goToText 7 = .ok (.iconst 1, 1) := by decide +kernel
theorem dX6_goToText_8 : decode cX6_goToText 8 = .ok (.isub, 1) := by decide +kernel
theorem dX6_goToText_9 : decode cX6_goToText 9 = .ok (.invokestatic 73, 3) := by decide +kernel
theorem dX6_goToText_12 : decode cX6_goToText 12 = .ok (.invokestatic 79, 3) := by decide +kernel
theorem dX6_goToText_15 : decode cX6_goToText 15 = .ok (.putfield 9, 3) := by decide +kernel
theorem dX6_goToText_18 : decode cX6_goToText 18 = .ok (.aload_n 0, 1) := by decide +kernel
theorem dX6_goToText_19 : decode cX6_goToText 19 = .ok (.aload_n 1, 1) := by decide +kernel
theorem dX6_goToText_20 : decode cX6_goToText 20 = .ok (.aload_n 0, 1) := by decide +kernel
theorem dX6_goToText_21 : decode cX6_goToText 21 = .ok (.getfield 9, 3) := by decide +kernel
theorem dX6_goToText_24 : decode cX6_goToText 24 = .ok (.invokevirtual 86, 3) := by decide +kernel
theorem dX6_goToText_27 : decode cX6_goToText 27 = .ok (.putfield 15, 3) := by decide +kernel
theorem dX6_goToText_30 : decode cX6_goToText 30 = .ok (.aload_n 0, 1) := by decide +kernel
theorem dX6_goToText_31 : decode cX6_goToText 31 = .ok (.aload_n 0, 1) := by decide +kernel
theorem dX6_goToText_32 : decode cX6_goToText 32 = .ok (.getfield 15, 3) := by decide +kernel
theorem dX6_goToText_35 : decode cX6_goToText 35 = .ok (.putfield 18, 3) := by decide +kernel
theorem dX6_goToText_38 : decode cX6_goToText 38 = .ok (.return_, 1) := by decide +kernel
theorem dX6_goWanted_0 : decode cX6_goWanted 0 = .ok (.aload_n 0, 1) := by decide +kernel
theorem dX6_goWanted_1 : decode cX6_goWanted 1 = .ok (.iconst 0, 1) := by decide +kernel
theorem dX6_goWanted_2 : decode cX6_goWanted 2 = .ok (.iload_n 2, 1) := by decide +kernel
theorem dX6_goWanted_3 : decode cX6_goWanted 3 = .ok (.aload_n 1, 1) := by decide +kernel
theorem dX6_goWanted_4 : decode cX6_goWanted 4 = .ok (.getfield 68, 3) := by decide +kernel
theorem dX6_goWanted_7 : decode cX6_goWanted 7 = .ok (.iconst 1, 1) := by decide +kernel
theorem dX6_goWanted_8 : decode cX6_goWanted 8 = .ok (.isub, 1) := by decide +kernel
theorem dX6_goWanted_9 : decode cX6_goWanted 9 = .ok (.invokestatic 73, 3) := by decide +kernel
theorem dX6_goWanted_12 : decode cX6_goWanted 12 = .ok (.invokestatic 79, 3) := by decide +kernel
theorem dX6_goWanted_15 : decode cX6_goWanted 15 = .ok (.putfield 9, 3) := by decide +kernel
theorem dX6_goWanted_18 : decode cX6_goWanted 18 = .ok (.aload_n 0, 1) := by decide +kernel
theorem dX6_goWanted_19 : decode cX6_goWanted 19 = .ok (.iconst 0, 1) := by decide +kernel
theorem dX6_goWanted_20 : decode cX6_goWanted 20 = .ok (.aload_n 0, 1) := by decide +kernel
theorem dX6_goWanted_21 : decode cX6_goWanted 21 = .ok (.getfield 18, 3) := by decide +kernel
theorem dX6_goWanted_24 : decode cX6_goWanted 24 = .ok (.aload_n 1, 1) := by decide +kernel
theorem dX6_goWanted_25 : decode cX6_goWanted 25 = .ok (.aload_n 0, 1) := by decide +kernel
theorem dX6_goWanted_26 : decode cX6_goWanted 26 = .ok (.getfield 9, 3) := by decide +kernel
theorem dX6_goWanted_29 : decode cX6_goWanted 29 = .ok (.invokevirtual 82, 3) := by decide +kernel
theorem dX6_goWanted_32 : decode cX6_goWanted 32 = .ok (.iconst 1, 1) := by decide +kernel
theorem dX6_goWanted_33 : decode cX6_goWanted 33 = .ok (.isub, 1) := by decide +kernel
theorem dX6_goWanted_34 : decode cX6_goWanted 34 = .ok (.invokestatic 73, 3) := by decide +kernel
theorem dX6_goWanted_37 : decode cX6_goWanted 37 = .ok (.invokestatic 79, 3) := by decide +kernel
theorem dX6_goWanted_40 : decode cX6_goWanted 40 = .ok (.putfield 15, 3) := by decide +kernel
theorem dX6_goWanted_43 : decode cX6_goWanted 43 = .ok (.return_, 1) := by decide +kernel
theorem dX6_put_0 : decode cX6_put 0 = .ok (.aload_n 0, 1) := by decide +kernel
theorem dX6_put_1 : decode cX6_put 1 = .ok (.iload_n 1, 1) := by decide +kernel
theorem dX6_put_2 : decode cX6_put 2 = .ok (.putfield 9, 3) := by decide +kernel
theorem dX6_put_5 : decode cX6_put 5 = .ok (.aload_n 0, 1) := by decide +kernel
theorem dX6_put_6 : decode cX6_put 6 = .ok (.iload_n 2, 1) := by decide +kernel
theorem dX6_put_7 : decode cX6_put 7 = .ok (.putfield 15, 3) := by decide +kernel
theorem dX6_put_10 : decode cX6_put 10 = .ok (.aload_n 0, 1) := by decide +kernel
theorem dX6_put_11 : decode cX6_put 11 = .ok (.iload_n 2, 1) := by decide +kernel
theorem dX6_put_12 : decode cX6_put 12 = .ok (.putfield 18, 3) := by decide +kernel
theorem dX6_put_15 : decode cX6_put 15 = .ok (.return_, 1) := by decide +kernel
theorem dX6_hold_0 : decode cX6_hold 0 = .ok (.aload_n 0, 1) := by decide +kernel
theorem dX6_hold_1 : decode cX6_hold 1 = .ok (.iconst 0, 1) := by decide +kernel
theorem dX6_hold_2 : decode cX6_hold 2 = .ok (.aload_n 0, 1) := by decide +kernel
theorem dX6_hold_3 : decode cX6_hold 3 = .ok (.getfield 15, 3) := by decide +kernel
theorem dX6_hold_6 : decode cX6_hold 6 = .ok (.aload_n 1, 1) := by decide +kernel
theorem dX6_hold_7 : decode cX6_hold 7 = .ok (.aload_n 0, 1) := by decide +kernel
theorem dX6_hold_8 : decode cX6_hold 8 = .ok (.getfield 9, 3) := by decide +kernel
theorem dX6_hold_11 : decode cX6_hold 11 = .ok (.invokevirtual 82, 3) := by decide +kernel
theorem dX6_hold_14 : decode cX6_hold 14 = .ok (.iconst 1, 1) := by decide +kernel
theorem dX6_hold_15 : decode cX6_hold 15 = .ok (.isub, 1) := by decide +kernel
theorem dX6_hold_16 : decode cX6_hold 16 = .ok (.invokestatic 73, 3) := by decide +kernel
theorem dX6_hold_19 : decode cX6_hold 19 = .ok (.invokestatic 79, 3) := by decide +kernel
theorem dX6_hold_22 : decode cX6_hold 22 = .ok (.putfield 15, 3) := by decide +kernel
theorem dX6_hold_25 : decode cX6_hold 25 = .ok (.aload_n 0, 1) := by decide +kernel
theorem dX6_hold_26 : decode cX6_hold 26 = .ok (.aload_n 0, 1) := by decide +kernel
theorem dX6_hold_27 : decode cX6_hold 27 = .ok (.getfield 9, 3) := by decide +kernel
theorem dX6_hold_30 : decode cX6_hold 30 = .ok (.invokevirtual 89, 3) := by decide +kernel
theorem dX6_hold_33 : decode cX6_hold 33 = .ok (.istore_n 2, 1) := by decide +kernel
theorem dX6_hold_34 : decode cX6_hold 34 = .ok (.iload_n 2, 1) := by decide +kernel
theorem dX6_hold_35 : decode cX6_hold 35 = .ok (.aload_n 0, 1) := by decide +kernel
theorem dX6_hold_36 : decode cX6_hold 36 = .ok (.getfield 9, 3) := by decide +kernel
theorem dX6_hold_39 : decode cX6_hold 39 = .ok (.if_icmp .eq 33, 3) := by decide +kernel
theorem dX6_hold_42 : decode cX6_hold 42 = .ok (.aload_n 0, 1) := by decide +kernel
theorem dX6_hold_43 : decode cX6_hold 43 = .ok (.iload_n 2, 1) := by decide +kernel
theorem dX6_hold_44 : decode cX6_hold 44 = .ok (.putfield 9, 3) := by decide +kernel
theorem dX6_hold_47 : decode cX6_hold 47 = .ok (.aload_n 0, 1) := by decide +kernel
theorem dX6_hold_48 : decode cX6_hold 48 = .ok (.iconst 0, 1) := by decide +kernel
theorem dX6_hold_49 : decode cX6_hold 49 = .ok (.aload_n 0, 1) := by decide +kernel
theorem dX6_hold_50 : decode cX6_hold 50 = .ok (.getfield 15, 3) := by decide +kernel
theorem dX6_hold_53 : decode cX6_hold 53 = .ok (.aload_n 1, 1) := by decide +kernel
theorem dX6_hold_54 : decode cX6_hold 54 = .ok (.aload_n 0, 1) := by decide +kernel
theorem dX6_hold_55 : decode cX6_hold 55 = .ok (.getfield 9, 3) := by decide +kernel
theorem dX6_hold_58 : decode cX6_hold 58 = .ok (.invokevirtual 82, 3) := by decide +kernel
theorem dX6_hold_61 : decode cX6_hold 61 = .ok (.iconst 1, 1) := by decide +kernel
theorem dX6_hold_62 : decode cX6_hold 62 = .ok (.isub, 1) := by decide +kernel
theorem dX6_hold_63 : decode cX6_hold 63 = .ok (.invokestatic 73, 3) := by decide +kernel
theorem dX6_hold_66 : decode cX6_hold 66 = .ok (.invokestatic 79, 3) := by decide +kernel
theorem dX6_hold_69 : decode cX6_hold 69 = .ok (.putfield 15, 3) := by decide +kernel
theorem dX6_hold_72 : decode cX6_hold 72 = .ok (.return_, 1) := by decide +kernel
theorem dX6_markOf_0 : decode cX6_markOf 0 = .ok (.iload_n 1, 1) := by decide +kernel
theorem dX6_markOf_1 : decode cX6_markOf 1 = .ok (.bipush 97, 2) := by decide +kernel
theorem dX6_markOf_3 : decode cX6_markOf 3 = .ok (.if_icmp .lt 9, 3) := by decide +kernel
theorem dX6_markOf_6 : decode cX6_markOf 6 = .ok (.iload_n 1, 1) := by decide +kernel
theorem dX6_markOf_7 : decode cX6_markOf 7 = .ok (.bipush 122, 2) := by decide +kernel
theorem dX6_markOf_9 : decode cX6_markOf 9 = .ok (.if_icmp .le 7, 3) := by decide +kernel
theorem dX6_markOf_12 : decode cX6_markOf 12 = .ok (.iconst (-1), 1) := by decide +kernel
theorem dX6_markOf_13 : decode cX6_markOf 13 = .ok (.goto 12, 3) := by decide +kernel
theorem dX6_markOf_16 : decode cX6_markOf 16 = .ok (.aload_n 0, 1) := by decide +kernel
theorem dX6_markOf_17 : decode cX6_markOf 17 = .ok (.getfield 24, 3) := by decide +kernel
theorem dX6_markOf_20 : decode cX6_markOf 20 = .ok (.iload_n 1, 1) := by decide +kernel
theorem dX6_markOf_21 : decode cX6_markOf 21 = .ok (.bipush 97, 2) := by decide +kernel
theorem dX6_markOf_23 : decode cX6_markOf 23 = .ok (.isub, 1) := by decide +kernel
theorem dX6_markOf_24 : decode cX6_markOf 24 = .ok (.iaload, 1) := by decide +kernel
theorem dX6_markOf_25 : decode cX6_markOf 25 = .ok (.ireturn, 1) := by decide +kernel
theorem dX6_setMark_0 : decode cX6_setMark 0 = .ok (.iload_n 1, 1) := by decide +kernel
theorem dX6_setMark_1 : decode cX6_setMark 1 = .ok (.bipush 97, 2) := by decide +kernel
theorem dX6_setMark_3 : decode cX6_setMark 3 = .ok (.if_icmp .lt 30, 3) := by decide +kernel
theorem dX6_setMark_6 : decode cX6_setMark 6 = .ok (.iload_n 1, 1) := by decide +kernel
theorem dX6_setMark_7 : decode cX6_setMark 7 = .ok (.bipush 122, 2) := by decide +kernel
theorem dX6_setMark_9 : decode cX6_setMark 9 = .ok (.if_icmp .gt 24, 3) := by decide +kernel
theorem dX6_setMark_12 : decode cX6_setMark 12 = .ok (.aload_n 0, 1) := by decide +kernel
theorem dX6_setMark_13 : decode cX6_setMark 13 = .ok (.getfield 24, 3) := by decide +kernel
theorem dX6_setMark_16 : decode cX6_setMark 16 = .ok (.iload_n 1, 1) := by decide +kernel
theorem dX6_setMark_17 : decode cX6_setMark 17 = .ok (.bipush 97, 2) := by decide +kernel
theorem dX6_setMark_19 : decode cX6_setMark 19 = .ok (.isub, 1) := by decide +kernel
theorem dX6_setMark_20 : decode cX6_setMark 20 = .ok (.aload_n 0, 1) := by decide +kernel
theorem dX6_setMark_21 : decode cX6_setMark 21 = .ok (.getfield 9, 3) := by decide +kernel
theorem dX6_setMark_24 : decode cX6_setMark 24 = .ok (.bipush 100, 2) := by decide +kernel
theorem dX6_setMark_26 : decode cX6_setMark 26 = .ok (.imul, 1) := by decide +kernel
theorem dX6_setMark_27 : decode cX6_setMark 27 = .ok (.aload_n 0, 1) := by decide +kernel
theorem dX6_setMark_28 : decode cX6_setMark 28 = .ok (.getfield 15, 3) := by decide +kernel
theorem dX6_setMark_31 : decode cX6_setMark 31 = .ok (.iadd, 1) := by decide +kernel
theorem dX6_setMark_32 : decode cX6_setMark 32 = .ok (.iastore, 1) := by decide +kernel
theorem dX6_setMark_33 : decode cX6_setMark 33 = .ok (.return_, 1) := by decide +kernel
theorem dX6_keepJump_0 : decode cX6_keepJump 0 = .ok (.iconst 0, 1) := by decide +kernel
theorem dX6_keepJump_1 : decode cX6_keepJump 1 = .ok (.istore_n 2, 1) := by decide +kernel
theorem dX6_keepJump_2 : decode cX6_keepJump 2 = .ok (.iconst 0, 1) := by decide +kernel
theorem dX6_keepJump_3 : decode cX6_keepJump 3 = .ok (.istore_n 3, 1) := by decide +kernel
theorem dX6_keepJump_4 : decode cX6_keepJump 4 = .ok (.iload_n 3, 1) := by decide +kernel
theorem dX6_keepJump_5 : decode cX6_keepJump 5 = .ok (.aload_n 0, 1) := by decide +kernel
theorem dX6_keepJump_6 : decode cX6_keepJump 6 = .ok (.getfield 31, 3) := by decide +kernel
theorem dX6_keepJump_9 : decode cX6_keepJump 9 = .ok (.if_icmp .ge 40, 3) := by decide +kernel
theorem dX6_keepJump_12 : decode cX6_keepJump 12 = .ok (.aload_n 0, 1) := by decide +kernel
theorem dX6_keepJump_13 : decode cX6_keepJump 13 = .ok (.getfield 28, 3) := by decide +kernel
theorem dX6_keepJump_16 : decode cX6_keepJump 16 = .ok (.iload_n 3, 1) := by decide +kernel
theorem dX6_keepJump_17 : decode cX6_keepJump 17 = .ok (.iaload, 1) := by decide +kernel
theorem dX6_keepJump_18 : decode cX6_keepJump 18 = .ok (.bipush 100, 2) := by decide +kernel
theorem dX6_keepJump_20 : decode cX6_keepJump 20 = .ok (.idiv, 1) := by decide +kernel
theorem dX6_keepJump_21 : decode cX6_keepJump 21 = .ok (.iload_n 1, 1) := by decide +kernel
theorem dX6_keepJump_22 : decode cX6_keepJump 22 = .ok (.bipush 100, 2) := by decide +kernel
theorem dX6_keepJump_24 : decode cX6_keepJump 24 = .ok (.idiv, 1) := by decide +kernel
theorem dX6_keepJump_25 : decode cX6_keepJump 25 = .ok (.if_icmp .eq 18, 3) := by decide +kernel
theorem dX6_keepJump_28 : decode cX6_keepJump 28 = .ok (.aload_n 0, 1) := by decide +kernel
theorem dX6_keepJump_29 : decode cX6_keepJump 29 = .ok (.getfield 28, 3) := by decide +kernel
theorem dX6_keepJump_32 : decode cX6_keepJump 32 = .ok (.iload_n 2, 1) := by decide +kernel
theorem dX6_keepJump_33 : decode cX6_keepJump 33 = .ok (.aload_n 0, 1) := by decide +kernel
theorem dX6_keepJump_34 : decode cX6_keepJump 34 = .ok (.getfield 28, 3) := by decide +kernel
theorem dX6_keepJump_37 : decode cX6_keepJump 37 = .ok (.iload_n 3, 1) := by decide +kernel
theorem dX6_keepJump_38 : decode cX6_keepJump 38 = .ok (.iaload, 1) := by decide +kernel
theorem dX6_keepJump_39 : decode cX6_keepJump 39 = .ok (.iastore, 1) := by decide +kernel
theorem dX6_keepJump_40 : decode cX6_keepJump 40 = .ok (.iinc 2 1, 3) := by decide +kernel
theorem dX6_keepJump_43 : decode cX6_keepJump 43 = .ok (.iinc 3 1, 3) := by decide +kernel
theorem dX6_keepJump_46 : decode cX6_keepJump 46 = .ok (.goto (-42), 3) := by decide +kernel
theorem dX6_keepJump_49 : decode cX6_keepJump 49 = .ok (.iload_n 2, 1) := by decide +kernel
theorem dX6_keepJump_50 : decode cX6_keepJump 50 = .ok (.bipush 10, 2) := by decide +kernel
theorem dX6_keepJump_52 : decode cX6_keepJump 52 = .ok (.if_icmp .ne 21, 3) := by decide +kernel
theorem dX6_keepJump_55 : decode cX6_keepJump 55 = .ok (.aload_n 0, 1) := by decide +kernel
theorem dX6_keepJump_56 : decode cX6_keepJump 56 = .ok (.getfield 28, 3) := by decide +kernel
theorem dX6_keepJump_59 : decode cX6_keepJump 59 = .ok (.iconst 1, 1) := by decide +kernel
theorem dX6_keepJump_60 : decode cX6_keepJump 60 = .ok (.aload_n 0, 1) := by decide +kernel
theorem dX6_keepJump_61 : decode cX6_keepJump 61 = .ok (.getfield 28, 3) := by decide +kernel
theorem dX6_keepJump_64 : decode cX6_keepJump 64 = .ok (.iconst 0, 1) := by decide +kernel
theorem dX6_keepJump_65 : decode cX6_keepJump 65 = .ok (.bipush 9, 2) := by decide +kernel
theorem dX6_keepJump_67 : decode cX6_keepJump 67 = .ok (.invokestatic 92, 3) := by decide +kernel
theorem dX6_keepJump_70 : decode cX6_keepJump 70 = .ok (.iinc 2 (-1), 3) := by decide +kernel
theorem dX6_keepJump_73 : decode cX6_keepJump 73 = .ok (.aload_n 0, 1) := by decide +kernel
theorem dX6_keepJump_74 : decode cX6_keepJump 74 = .ok (.getfield 28, 3) := by decide +kernel
theorem dX6_keepJump_77 : decode cX6_keepJump 77 = .ok (.iload_n 2, 1) := by decide +kernel
theorem dX6_keepJump_78 : decode cX6_keepJump 78 = .ok (.iload_n 1, 1) := by decide +kernel
theorem dX6_keepJump_79 : decode cX6_keepJump 79 = .ok (.iastore, 1) := by decide +kernel
theorem dX6_keepJump_80 : decode cX6_keepJump 80 = .ok (.aload_n 0, 1) := by decide +kernel
theorem dX6_keepJump_81 : decode cX6_keepJump 81 = .ok (.iload_n 2, 1) := by decide +kernel
theorem dX6_keepJump_82 : decode cX6_keepJump 82 = .ok (.iconst 1, 1) := by decide +kernel
theorem dX6_keepJump_83 : decode cX6_keepJump 83 = .ok (.iadd, 1) := by decide +kernel
theorem dX6_keepJump_84 : decode cX6_keepJump 84 = .ok (.putfield 31, 3) := by decide +kernel
theorem dX6_keepJump_87 : decode cX6_keepJump 87 = .ok (.aload_n 0, 1) := by decide +kernel
theorem dX6_keepJump_88 : decode cX6_keepJump 88 = .ok (.iconst (-1), 1) := by decide +kernel
theorem dX6_keepJump_89 : decode cX6_keepJump 89 = .ok (.putfield 34, 3) := by decide +kernel
theorem dX6_keepJump_92 : decode cX6_keepJump 92 = .ok (.return_, 1) := by decide +kernel
theorem dX6_goOlder_0 : decode cX6_goOlder 0 = .ok (.aload_n 0, 1) := by decide +kernel
theorem dX6_goOlder_1 : decode cX6_goOlder 1 = .ok (.getfield 34, 3) := by decide +kernel
theorem dX6_goOlder_4 : decode cX6_goOlder 4 = .ok (.istore_n 3, 1) := by decide +kernel
theorem dX6_goOlder_5 : decode cX6_goOlder 5 = .ok (.iload_n 3, 1) := by decide +kernel
theorem dX6_goOlder_6 : decode cX6_goOlder 6 = .ok (.iconst (-1), 1) := by decide +kernel
theorem dX6_goOlder_7 : decode cX6_goOlder 7 = .ok (.if_icmp .ne 59, 3) := by decide +kernel
theorem dX6_goOlder_10 : decode cX6_goOlder 10 = .ok (.iconst 0, 1) := by decide +kernel
theorem dX6_goOlder_11 : decode cX6_goOlder 11 = .ok (.istore 4, 2) := by decide +kernel
theorem dX6_goOlder_13 : decode cX6_goOlder 13 = .ok (.iconst 0, 1) := by decide +kernel
theorem dX6_goOlder_14 : decode cX6_goOlder 14 = .ok (.istore 5, 2) := by decide +kernel
theorem dX6_goOlder_16 : decode cX6_goOlder 16 = .ok (.iload 5, 2) := by decide +kernel
theorem dX6_goOlder_18 : decode cX6_goOlder 18 = .ok (.aload_n 0, 1) := by decide +kernel
theorem dX6_goOlder_19 : decode cX6_goOlder 19 = .ok (.getfield 31, 3) := by decide +kernel
theorem dX6_goOlder_22 : decode cX6_goOlder 22 = .ok (.if_icmp .ge 36, 3) := by decide +kernel
theorem dX6_goOlder_25 : decode cX6_goOlder 25 = .ok (.iload 4, 2) := by decide +kernel
theorem dX6_goOlder_27 : decode cX6_goOlder 27 = .ok (.aload_n 0, 1) := by decide +kernel
theorem dX6_goOlder_28 : decode cX6_goOlder 28 = .ok (.getfield 28, 3) := by decide +kernel
theorem dX6_goOlder_31 : decode cX6_goOlder 31 = .ok (.iload 5, 2) := by decide +kernel
theorem dX6_goOlder_33 : decode cX6_goOlder 33 = .ok (.iaload, 1) := by decide +kernel
theorem dX6_goOlder_34 : decode cX6_goOlder 34 = .ok (.bipush 100, 2) := by decide +kernel
theorem dX6_goOlder_36 : decode cX6_goOlder 36 = .ok (.idiv, 1) := by decide +kernel
theorem dX6_goOlder_37 : decode cX6_goOlder 37 = .ok (.aload_n 0, 1) := by decide +kernel
theorem dX6_goOlder_38 : decode cX6_goOlder 38 = .ok (.getfield 9, 3) := by decide +kernel
theorem dX6_goOlder_41 : decode cX6_goOlder 41 = .ok (.if_icmp .ne 7, 3) := by decide +kernel
theorem dX6_goOlder_44 : decode cX6_goOlder 44 = .ok (.iconst 0, 1) := by decide +kernel
theorem dX6_goOlder_45 : decode cX6_goOlder 45 = .ok (.goto 4, 3) := by decide +kernel
theorem dX6_goOlder_48 : decode cX6_goOlder 48 = .ok (.iconst 1, 1) := by decide +kernel
theorem dX6_goOlder_49 : decode cX6_goOlder 49 = .ok (.iadd, 1) := by decide +kernel
theorem dX6_goOlder_50 : decode cX6_goOlder 50 = .ok (.istore 4, 2) := by decide +kernel
theorem dX6_goOlder_52 : decode cX6_goOlder 52 = .ok (.iinc 5 1, 3) := by decide +kernel
theorem dX6_goOlder_55 : decode cX6_goOlder 55 = .ok (.goto (-39), 3) := by decide +kernel
theorem dX6_goOlder_58 : decode cX6_goOlder 58 = .ok (.iload 4, 2) := by decide +kernel
theorem dX6_goOlder_60 : decode cX6_goOlder 60 = .ok (.bipush 9, 2) := by decide +kernel
theorem dX6_goOlder_62 : decode cX6_goOlder 62 = .ok (.invokestatic 73, 3) := by decide +kernel
theorem dX6_goOlder_65 : decode cX6_goOlder 65 = .ok (.istore_n 3, 1) := by decide +kernel
theorem dX6_goOlder_66 : decode cX6_goOlder 66 = .ok (.iload_n 3, 1) := by decide +kernel
theorem dX6_goOlder_67 : decode cX6_goOlder 67 = .ok (.iload_n 2, 1) := by decide +kernel
theorem dX6_goOlder_68 : decode cX6_goOlder 68 = .ok (.isub, 1) := by decide +kernel
theorem dX6_goOlder_69 : decode cX6_goOlder 69 = .ok (.ifCond .ge 5, 3) := by decide +kernel
theorem dX6_goOlder_72 : decode cX6_goOlder 72 = .ok (.iconst 0, 1) := by decide +kernel
theorem dX6_goOlder_73 : decode cX6_goOlder 73 = .ok (.ireturn, 1) := by decide +kernel
theorem dX6_goOlder_74 : decode cX6_goOlder 74 = .ok (.aload_n 0, 1) := by decide +kernel
theorem dX6_goOlder_75 : decode cX6_goOlder 75 = .ok (.getfield 34, 3) := by decide +kernel
theorem dX6_goOlder_78 : decode cX6_goOlder 78 = .ok (.iconst (-1), 1) := by decide +kernel
theorem dX6_goOlder_79 : decode cX6_goOlder 79 = .ok (.if_icmp .ne 11, 3) := by decide +kernel
theorem dX6_goOlder_82 : decode cX6_goOlder 82 = .ok (.aload_n 0, 1) := by decide +kernel
theorem dX6_goOlder_83 : decode cX6_goOlder 83 = .ok (.aload_n 0, 1) := by decide +kernel
theorem dX6_goOlder_84 : decode cX6_goOlder 84 = .ok (.invokevirtual 98, 3) := by decide +kernel
theorem dX6_goOlder_87 : decode cX6_goOlder 87 = .ok (.invokevirtual 102, 3) := by decide +kernel
theorem dX6_goOlder_90 : decode cX6_goOlder 90 = .ok (.aload_n 0, 1) := by decide +kernel
theorem dX6_goOlder_91 : decode cX6_goOlder 91 = .ok (.aload_n 1, 1) := by decide +kernel
theorem dX6_goOlder_92 : decode cX6_goOlder 92 = .ok (.iload_n 3, 1) := by decide +kernel
theorem dX6_goOlder_93 : decode cX6_goOlder 93 = .ok (.iload_n 2, 1) := by decide +kernel
theorem dX6_goOlder_94 : decode cX6_goOlder 94 = .ok (.isub, 1) := by decide +kernel
theorem dX6_goOlder_95 : decode cX6_goOlder 95 = .ok (.invokevirtual 106, 3) := by decide +kernel
theorem dX6_goOlder_98 : decode cX6_goOlder 98 = .ok (.ireturn, 1) := by decide +kernel
theorem dX6_goNewer_0 : decode cX6_goNewer 0 = .ok (.aload_n 0, 1) := by decide +kernel
theorem dX6_goNewer_1 : decode cX6_goNewer 1 = .ok (.getfield 34, 3) := by decide +kernel
theorem dX6_goNewer_4 : decode cX6_goNewer 4 = .ok (.iconst (-1), 1) := by decide +kernel
theorem dX6_goNewer_5 : decode cX6_goNewer 5 = .ok (.if_icmp .eq 21, 3) := by decide +kernel
theorem dX6_goNewer_8 : decode cX6_goNewer 8 = .ok (.aload_n 0, 1) := by decide +kernel
theorem dX6_goNewer_9 : decode cX6_goNewer 9 = .ok (.aload_n 1, 1) := by decide +kernel
theorem dX6_goNewer_10 : decode cX6_goNewer 10 = .ok (.aload_n 0, 1) := by decide +kernel
theorem dX6_goNewer_11 : decode cX6_goNewer 11 = .ok (.getfield 34, 3) := by decide +kernel
theorem dX6_goNewer_14 : decode cX6_goNewer 14 = .ok (.iload_n 2, 1) := by decide +kernel
theorem dX6_goNewer_15 : decode cX6_goNewer 15 = .ok (.iadd, 1) := by decide +kernel
theorem dX6_goNewer_16 : decode cX6_goNewer 16 = .ok (.invokevirtual 106, 3) := by decide +kernel
theorem dX6_goNewer_19 : decode cX6_goNewer 19 = .ok (.ifCond .eq 7, 3) := by decide +kernel
theorem dX6_goNewer_22 : decode cX6_goNewer 22 = .ok (.iconst 1, 1) := by decide +kernel
theorem dX6_goNewer_23 : decode cX6_goNewer 23 = .ok (.goto 4, 3) := by decide +kernel
theorem dX6_goNewer_26 : decode cX6_goNewer 26 = .ok (.iconst 0, 1) := by decide +kernel
theorem dX6_goNewer_27 : decode cX6_goNewer 27 = .ok (.ireturn, 1) := by decide +kernel
theorem dX6_goToJump_0 : decode cX6_goToJump 0 = .ok (.iload_n 2, 1) := by decide +kernel
theorem dX6_goToJump_1 : decode cX6_goToJump 1 = .ok (.ifCond .lt 11, 3) := by decide +kernel
theorem dX6_goToJump_4 : decode cX6_goToJump 4 = .ok (.iload_n 2, 1) := by decide +kernel
theorem dX6_goToJump_5 : decode cX6_goToJump 5 = .ok (.aload_n 0, 1) := by decide +kernel
theorem dX6_goToJump_6 : decode cX6_goToJump 6 = .ok (.getfield 31, 3) := by decide +kernel
theorem dX6_goToJump_9 : decode cX6_goToJump 9 = .ok (.if_icmp .lt 5, 3) := by decide +kernel
theorem dX6_goToJump_12 : decode cX6_goToJump 12 = .ok (.iconst 0, 1) := by decide +kernel
theorem dX6_goToJump_13 : decode cX6_goToJump 13 = .ok (.ireturn, 1) := by decide +kernel
theorem dX6_goToJump_14 : decode cX6_goToJump 14 = .ok (.aload_n 0, 1) := by decide +kernel
theorem dX6_goToJump_15 : decode cX6_goToJump 15 = .ok (.iload_n 2, 1) := by decide +kernel
theorem dX6_goToJump_16 : decode cX6_goToJump 16 = .ok (.putfield 34, 3) := by decide +kernel
theorem dX6_goToJump_19 : decode cX6_goToJump 19 = .ok (.aload_n 0, 1) := by decide +kernel
theorem dX6_goToJump_20 : decode cX6_goToJump 20 = .ok (.aload_n 1, 1) := by decide +kernel
theorem dX6_goToJump_21 : decode cX6_goToJump 21 = .ok (.aload_n 0, 1) := by decide +kernel
theorem dX6_goToJump_22 : decode cX6_goToJump 22 = .ok (.getfield 28, 3) := by decide +kernel
theorem dX6_goToJump_25 : decode cX6_goToJump 25 = .ok (.iload_n 2, 1) := by decide +kernel
theorem dX6_goToJump_26 : decode cX6_goToJump 26 = .ok (.iaload, 1) := by decide +kernel
theorem dX6_goToJump_27 : decode cX6_goToJump 27 = .ok (.bipush 100, 2) := by decide +kernel
theorem dX6_goToJump_29 : decode cX6_goToJump 29 = .ok (.idiv, 1) := by decide +kernel
theorem dX6_goToJump_30 : decode cX6_goToJump 30 = .ok (.aload_n 0, 1) := by decide +kernel
theorem dX6_goToJump_31 : decode cX6_goToJump 31 = .ok (.getfield 28, 3) := by decide +kernel
theorem dX6_goToJump_34 : decode cX6_goToJump 34 = .ok (.iload_n 2, 1) := by decide +kernel
theorem dX6_goToJump_35 : decode cX6_goToJump 35 = .ok (.iaload, 1) := by decide +kernel
theorem dX6_goToJump_36 : decode cX6_goToJump 36 = .ok (.bipush 100, 2) := by decide +kernel
theorem dX6_goToJump_38 : decode cX6_goToJump 38 = .ok (.irem, 1) := by decide +kernel
theorem dX6_goToJump_39 : decode cX6_goToJump 39 = .ok (.invokevirtual 110, 3) := by decide +kernel
theorem dX6_goToJump_42 : decode cX6_goToJump 42 = .ok (.iconst 1, 1) := by decide +kernel
theorem dX6_goToJump_43 : decode cX6_goToJump 43 = .ok (.ireturn, 1) := by decide +kernel
theorem dX6_otherAt_0 : decode cX6_otherAt 0 = .ok (.iload_n 1, 1) := by decide +kernel
theorem dX6_otherAt_1 : decode cX6_otherAt 1 = .ok (.ifCond .lt 11, 3) := by decide +kernel
theorem dX6_otherAt_4 : decode cX6_otherAt 4 = .ok (.iload_n 1, 1) := by decide +kernel
theorem dX6_otherAt_5 : decode cX6_otherAt 5 = .ok (.aload_n 0, 1) := by decide +kernel
theorem dX6_otherAt_6 : decode cX6_otherAt 6 = .ok (.getfield 40, 3) := by decide +kernel
theorem dX6_otherAt_9 : decode cX6_otherAt 9 = .ok (.if_icmp .lt 7, 3) := by decide +kernel
theorem dX6_otherAt_12 : decode cX6_otherAt 12 = .ok (.iconst (-1), 1) := by decide +kernel
theorem dX6_otherAt_13 : decode cX6_otherAt 13 = .ok (.goto 9, 3) := by decide +kernel
theorem dX6_otherAt_16 : decode cX6_otherAt 16 = .ok (.aload_n 0, 1) := by decide +kernel
theorem dX6_otherAt_17 : decode cX6_otherAt 17 = .ok (.getfield 37, 3) := by decide +kernel
theorem dX6_otherAt_20 : decode cX6_otherAt 20 = .ok (.iload_n 1, 1) := by decide +kernel
theorem dX6_otherAt_21 : decode cX6_otherAt 21 = .ok (.iaload, 1) := by decide +kernel
theorem dX6_otherAt_22 : decode cX6_otherAt 22 = .ok (.ireturn, 1) := by decide +kernel
theorem dX6_addOther_0 : decode cX6_addOther 0 = .ok (.aload_n 0, 1) := by decide +kernel
theorem dX6_addOther_1 : decode cX6_addOther 1 = .ok (.getfield 40, 3) := by decide +kernel
theorem dX6_addOther_4 : decode cX6_addOther 4 = .ok (.bipush 9, 2) := by decide +kernel
theorem dX6_addOther_6 : decode cX6_addOther 6 = .ok (.if_icmp .ge 23, 3) := by decide +kernel
theorem dX6_addOther_9 : decode cX6_addOther 9 = .ok (.aload_n 0, 1) := by decide +kernel
theorem dX6_addOther_10 : decode cX6_addOther 10 = .ok (.getfield 37, 3) := by decide +kernel
theorem dX6_addOther_13 : decode cX6_addOther 13 = .ok (.aload_n 0, 1) := by decide +kernel
theorem dX6_addOther_14 : decode cX6_addOther 14 = .ok (.getfield 40, 3) := by decide +kernel
theorem dX6_addOther_17 : decode cX6_addOther 17 = .ok (.iload_n 1, 1) := by decide +kernel
theorem dX6_addOther_18 : decode cX6_addOther 18 = .ok (.iastore, 1) := by decide +kernel
theorem dX6_addOther_19 : decode cX6_addOther 19 = .ok (.aload_n 0, 1) := by decide +kernel
theorem dX6_addOther_20 : decode cX6_addOther 20 = .ok (.dup, 1) := by decide +kernel
theorem dX6_addOther_21 : decode cX6_addOther 21 = .ok (.getfield 40, 3) := by decide +kernel
theorem dX6_addOther_24 : decode cX6_addOther 24 = .ok (.iconst 1, 1) := by decide +kernel
theorem dX6_addOther_25 : decode cX6_addOther 25 = .ok (.iadd, 1) := by decide +kernel
theorem dX6_addOther_26 : decode cX6_addOther 26 = .ok (.putfield 40, 3) := by decide +kernel
theorem dX6_addOther_29 : decode cX6_addOther 29 = .ok (.return_, 1) := by decide +kernel
theorem dX6_orderOthers_0 : decode cX6_orderOthers 0 = .ok (.iconst 0, 1) := by decide +kernel
theorem dX6_orderOthers_1 : decode cX6_orderOthers 1 = .ok (.istore_n 2, 1) := by decide +kernel
theorem dX6_orderOthers_2 : decode cX6_orderOthers 2 = .ok (.iconst 0, 1) := by decide +kernel
theorem dX6_orderOthers_3 : decode cX6_orderOthers 3 = .ok (.istore_n 3, 1) := by decide +kernel
theorem dX6_orderOthers_4 : decode cX6_orderOthers 4 = .ok (.iload_n 3, 1) := by decide +kernel
theorem dX6_orderOthers_5 : decode cX6_orderOthers 5 = .ok (.aload_n 0, 1) := by decide +kernel
theorem dX6_orderOthers_6 : decode cX6_orderOthers 6 = .ok (.getfield 40, 3) := by decide +kernel
theorem dX6_orderOthers_9 : decode cX6_orderOthers 9 = .ok (.if_icmp .ge 111, 3) := by decide +kernel
theorem dX6_orderOthers_12 : decode cX6_orderOthers 12 = .ok (.aload_n 0, 1) := by decide +kernel
theorem dX6_orderOthers_13 : decode cX6_orderOthers 13 = .ok (.getfield 37, 3) := by decide +kernel
theorem dX6_orderOthers_16 : decode cX6_orderOthers 16 = .ok (.iload_n 3, 1) := by decide +kernel
theorem dX6_orderOthers_17 : decode cX6_orderOthers 17 = .ok (.iaload, 1) := by decide +kernel
theorem dX6_orderOthers_18 : decode cX6_orderOthers 18 = .ok (.istore 4, 2) := by decide +kernel
theorem dX6_orderOthers_20 : decode cX6_orderOthers 20 = .ok (.iload_n 2, 1) := by decide +kernel
theorem dX6_orderOthers_21 : decode cX6_orderOthers 21 = .ok (.istore 5, 2) := by decide +kernel
theorem dX6_orderOthers_23 : decode cX6_orderOthers 23 = .ok (.iload 5, 2) := by decide +kernel
theorem dX6_orderOthers_25 : decode cX6_orderOthers 25 = .ok (.ifCond .le 23, 3) := by decide +kernel
theorem dX6_orderOthers_28 : decode cX6_orderOthers 28 = .ok (.aload_n 0, 1) := by decide +kernel
theorem dX6_orderOthers_29 : decode cX6_orderOthers 29 = .ok (.getfield 37, 3) := by decide +kernel
theorem dX6_orderOthers_32 : decode cX6_orderOthers 32 = .ok (.iload 5, 2) := by decide +kernel
theorem dX6_orderOthers_34 : decode cX6_orderOthers 34 = .ok (.iconst 1, 1) := by decide +kernel
theorem dX6_orderOthers_35 : decode cX6_orderOthers 35 = .ok (.isub, 1) := by decide +kernel
theorem dX6_orderOthers_36 : decode cX6_orderOthers 36 = .ok (.iaload, 1) := by decide +kernel
theorem dX6_orderOthers_37 : decode cX6_orderOthers 37 = .ok (.iload 4, 2) := by decide +kernel
theorem dX6_orderOthers_39 : decode cX6_orderOthers 39 = .ok (.if_icmp .lt 9, 3) := by decide +kernel
theorem dX6_orderOthers_42 : decode cX6_orderOthers 42 = .ok (.iinc 5 (-1), 3) := by decide +kernel
theorem dX6_orderOthers_45 : decode cX6_orderOthers 45 = .ok (.goto (-22), 3) := by decide +kernel
theorem dX6_orderOthers_48 : decode cX6_orderOthers 48 = .ok (.iload 4, 2) := by decide +kernel
theorem dX6_orderOthers_50 : decode cX6_orderOthers 50 = .ok (.iconst (-1), 1) := by decide +kernel
theorem dX6_orderOthers_51 : decode cX6_orderOthers 51 = .ok (.if_icmp .eq 63, 3) := by decide +kernel
theorem dX6_orderOthers_54 : decode cX6_orderOthers 54 = .ok (.iload 4, 2) := by decide +kernel
theorem dX6_orderOthers_56 : decode cX6_orderOthers 56 = .ok (.iload_n 1, 1) := by decide +kernel
theorem dX6_orderOthers_57 : decode cX6_orderOthers 57 = .ok (.if_icmp .eq 57, 3) := by decide +kernel
theorem dX6_orderOthers_60 : decode cX6_orderOthers 60 = .ok (.iload 5, 2) := by decide +kernel
theorem dX6_orderOthers_62 : decode cX6_orderOthers 62 = .ok (.iload_n 2, 1) := by decide +kernel
theorem dX6_orderOthers_63 : decode cX6_orderOthers 63 = .ok (.if_icmp .ge 18, 3) := by decide +kernel
theorem dX6_orderOthers_66 : decode cX6_orderOthers 66 = .ok (.aload_n 0, 1) := by decide +kernel
theorem dX6_orderOthers_67 : decode cX6_orderOthers 67 = .ok (.getfield 37, 3) := by decide +kernel
theorem dX6_orderOthers_70 : decode cX6_orderOthers 70 = .ok (.iload 5, 2) := by decide +kernel
theorem dX6_orderOthers_72 : decode cX6_orderOthers 72 = .ok (.iaload, 1) := by decide +kernel
theorem dX6_orderOthers_73 : decode cX6_orderOthers 73 = .ok (.iload 4, 2) := by decide +kernel
theorem dX6_orderOthers_75 : decode cX6_orderOthers 75 = .ok (.if_icmp .ne 6, 3) := by decide +kernel
theorem dX6_orderOthers_78 : decode cX6_orderOthers 78 = .ok (.goto 36, 3) := by decide +kernel
theorem dX6_orderOthers_81 : decode cX6_orderOthers 81 = .ok (.aload_n 0, 1) := by decide +kernel
theorem dX6_orderOthers_82 : decode cX6_orderOthers 82 = .ok (.getfield 37, 3) := by decide +kernel
theorem dX6_orderOthers_85 : decode cX6_orderOthers 85 = .ok (.iload 5, 2) := by decide +kernel
theorem dX6_orderOthers_87 : decode cX6_orderOthers 87 = .ok (.aload_n 0, 1) := by decide +kernel
theorem dX6_orderOthers_88 : decode cX6_orderOthers 88 = .ok (.getfield 37, 3) := by decide +kernel
theorem dX6_orderOthers_91 : decode cX6_orderOthers 91 = .ok (.iload 5, 2) := by decide +kernel
theorem dX6_orderOthers_93 : decode cX6_orderOthers 93 = .ok (.iconst 1, 1) := by decide +kernel
theorem dX6_orderOthers_94 : decode cX6_orderOthers 94 = .ok (.iadd, 1) := by decide +kernel
theorem dX6_orderOthers_95 : decode cX6_orderOthers 95 = .ok (.iload_n 2, 1) := by decide +kernel
theorem dX6_orderOthers_96 : decode cX6_orderOthers 96 = .ok (.iload 5, 2) := by decide +kernel
theorem dX6_orderOthers_98 : decode cX6_orderOthers 98 = .ok (.isub, 1) := by decide +kernel
theorem dX6_orderOthers_99 : decode cX6_orderOthers 99 = .ok (.invokestatic 92, 3) := by decide +kernel
theorem dX6_orderOthers_102 : decode cX6_orderOthers 102 = .ok (.aload_n 0, 1) := by decide +kernel
theorem dX6_orderOthers_103 : decode cX6_orderOthers 103 = .ok (.getfield 37, 3) := by decide +kernel
theorem dX6_orderOthers_106 : decode cX6_orderOthers 106 = .ok (.iload 5, 2) := by decide +kernel
theorem dX6_orderOthers_108 : decode cX6_orderOthers 108 = .ok (.iload 4, 2) := by decide +kernel
theorem dX6_orderOthers_110 : decode cX6_orderOthers 110 = .ok (.iastore, 1) := by decide +kernel
theorem dX6_orderOthers_111 : decode cX6_orderOthers 111 = .ok (.iinc 2 1, 3) := by decide +kernel
theorem dX6_orderOthers_114 : decode cX6_orderOthers 114 = .ok (.iinc 3 1, 3) := by decide +kernel
theorem dX6_orderOthers_117 : decode cX6_orderOthers 117 = .ok (.goto (-113), 3) := by decide +kernel
theorem dX6_orderOthers_120 : decode cX6_orderOthers 120 = .ok (.aload_n 0, 1) := by decide +kernel
theorem dX6_orderOthers_121 : decode cX6_orderOthers 121 = .ok (.iload_n 2, 1) := by decide +kernel
theorem dX6_orderOthers_122 : decode cX6_orderOthers 122 = .ok (.putfield 40, 3) := by decide +kernel
theorem dX6_orderOthers_125 : decode cX6_orderOthers 125 = .ok (.return_, 1) := by decide +kernel
theorem dX6_cutOthers_0 : decode cX6_cutOthers 0 = .ok (.iconst 0, 1) := by decide +kernel
theorem dX6_cutOthers_1 : decode cX6_cutOthers 1 = .ok (.istore_n 2, 1) := by decide +kernel
theorem dX6_cutOthers_2 : decode cX6_cutOthers 2 = .ok (.iload_n 2, 1) := by decide +kernel
theorem dX6_cutOthers_3 : decode cX6_cutOthers 3 = .ok (.aload_n 0, 1) := by decide +kernel
theorem dX6_cutOthers_4 : decode cX6_cutOthers 4 = .ok (.getfield 40, 3) := by decide +kernel
theorem dX6_cutOthers_7 : decode cX6_cutOthers 7 = .ok (.if_icmp .ge 71, 3) := by decide +kernel
theorem dX6_cutOthers_10 : decode cX6_cutOthers 10 = .ok (.aload_n 0, 1) := by decide +kernel
theorem dX6_cutOthers_11 : decode cX6_cutOthers 11 = .ok (.getfield 37, 3) := by decide +kernel
theorem dX6_cutOthers_14 : decode cX6_cutOthers 14 = .ok (.iload_n 2, 1) := by decide +kernel
theorem dX6_cutOthers_15 : decode cX6_cutOthers 15 = .ok (.iaload, 1) := by decide +kernel
theorem dX6_cutOthers_16 : decode cX6_cutOthers 16 = .ok (.iconst (-1), 1) := by decide +kernel
theorem dX6_cutOthers_17 : decode cX6_cutOthers 17 = .ok (.if_icmp .eq 55, 3) := by decide +kernel
theorem dX6_cutOthers_20 : decode cX6_cutOthers 20 = .ok (.iconst 0, 1) := by decide +kernel
theorem dX6_cutOthers_21 : decode cX6_cutOthers 21 = .ok (.aload_n 1, 1) := by decide +kernel
theorem dX6_cutOthers_22 : decode cX6_cutOthers 22 = .ok (.aload_n 0, 1) := by decide +kernel
theorem dX6_cutOthers_23 : decode cX6_cutOthers 23 = .ok (.getfield 37, 3) := by decide +kernel
theorem dX6_cutOthers_26 : decode cX6_cutOthers 26 = .ok (.iload_n 2, 1) := by decide +kernel
theorem dX6_cutOthers_27 : decode cX6_cutOthers 27 = .ok (.iaload, 1) := by decide +kernel
theorem dX6_cutOthers_28 : decode cX6_cutOthers 28 = .ok (.bipush 100, 2) := by decide +kernel
theorem dX6_cutOthers_30 : decode cX6_cutOthers 30 = .ok (.idiv, 1) := by decide +kernel
theorem dX6_cutOthers_31 : decode cX6_cutOthers 31 = .ok (.invokevirtual 82, 3) := by decide +kernel
theorem dX6_cutOthers_34 : decode cX6_cutOthers 34 = .ok (.iconst 1, 1) := by decide +kernel
theorem dX6_cutOthers_35 : decode cX6_cutOthers 35 = .ok (.isub, 1) := by decide +kernel
theorem dX6_cutOthers_36 : decode cX6_cutOthers 36 = .ok (.invokestatic 79, 3) := by decide +kernel
theorem dX6_cutOthers_39 : decode cX6_cutOthers 39 = .ok (.istore_n 3, 1) := by decide +kernel
theorem dX6_cutOthers_40 : decode cX6_cutOthers 40 = .ok (.aload_n 0, 1) := by decide +kernel
theorem dX6_cutOthers_41 : decode cX6_cutOthers 41 = .ok (.getfield 37, 3) := by decide +kernel
theorem dX6_cutOthers_44 : decode cX6_cutOthers 44 = .ok (.iload_n 2, 1) := by decide +kernel
theorem dX6_cutOthers_45 : decode cX6_cutOthers 45 = .ok (.aload_n 0, 1) := by decide +kernel
theorem dX6_cutOthers_46 : decode cX6_cutOthers 46 = .ok (.getfield 37, 3) := by decide +kernel
theorem dX6_cutOthers_49 : decode cX6_cutOthers 49 = .ok (.iload_n 2, 1) := by decide +kernel
theorem dX6_cutOthers_50 : decode cX6_cutOthers 50 = .ok (.iaload, 1) := by decide +kernel
theorem dX6_cutOthers_51 : decode cX6_cutOthers 51 = .ok (.bipush 100, 2) := by decide +kernel
theorem dX6_cutOthers_53 : decode cX6_cutOthers 53 = .ok (.idiv, 1) := by decide +kernel
theorem dX6_cutOthers_54 : decode cX6_cutOthers 54 = .ok (.bipush 100, 2) := by decide +kernel
theorem dX6_cutOthers_56 : decode cX6_cutOthers 56 = .ok (.imul, 1) := by decide +kernel
theorem dX6_cutOthers_57 : decode cX6_cutOthers 57 = .ok (.aload_n 0, 1) := by decide +kernel
theorem dX6_cutOthers_58 : decode cX6_cutOthers 58 = .ok (.getfield 37, 3) := by decide +kernel
theorem dX6_cutOthers_61 : decode cX6_cutOthers 61 = .ok (.iload_n 2, 1) := by decide +kernel
theorem dX6_cutOthers_62 : decode cX6_cutOthers 62 = .ok (.iaload, 1) := by decide +kernel
theorem dX6_cutOthers_63 : decode cX6_cutOthers 63 = .ok (.bipush 100, 2) := by decide +kernel
theorem dX6_cutOthers_65 : decode cX6_cutOthers 65 = .ok (.irem, 1) := by decide +kernel
theorem dX6_cutOthers_66 : decode cX6_cutOthers 66 = .ok (.iload_n 3, 1) := by decide +kernel
theorem dX6_cutOthers_67 : decode cX6_cutOthers 67 = .ok (.invokestatic 73, 3) := by decide +kernel
theorem dX6_cutOthers_70 : decode cX6_cutOthers 70 = .ok (.iadd, 1) := by decide +kernel
theorem dX6_cutOthers_71 : decode cX6_cutOthers 71 = .ok (.iastore, 1) := by decide +kernel
theorem dX6_cutOthers_72 : decode cX6_cutOthers 72 = .ok (.iinc 2 1, 3) := by decide +kernel
theorem dX6_cutOthers_75 : decode cX6_cutOthers 75 = .ok (.goto (-73), 3) := by decide +kernel
theorem dX6_cutOthers_78 : decode cX6_cutOthers 78 = .ok (.return_, 1) := by decide +kernel
theorem dX6_closedOver_0 : decode cX6_closedOver 0 = .ok (.iconst (-1), 1) := by decide +kernel
theorem dX6_closedOver_1 : decode cX6_closedOver 1 = .ok (.istore_n 2, 1) := by decide +kernel
theorem dX6_closedOver_2 : decode cX6_closedOver 2 = .ok (.iconst 0, 1) := by decide +kernel
theorem dX6_closedOver_3 : decode cX6_closedOver 3 = .ok (.istore_n 3, 1) := by decide +kernel
theorem dX6_closedOver_4 : decode cX6_closedOver 4 = .ok (.iload_n 3, 1) := by decide +kernel
theorem dX6_closedOver_5 : decode cX6_closedOver 5 = .ok (.aload_n 0, 1) := by decide +kernel
theorem dX6_closedOver_6 : decode cX6_closedOver 6 = .ok (.getfield 59, 3) := by decide +kernel
theorem dX6_closedOver_9 : decode cX6_closedOver 9 = .ok (.if_icmp .ge 74, 3) := by decide +kernel
theorem dX6_closedOver_12 : decode cX6_closedOver 12 = .ok (.aload_n 0, 1) := by decide +kernel
theorem dX6_closedOver_13 : decode cX6_closedOver 13 = .ok (.getfield 55, 3) := by decide +kernel
theorem dX6_closedOver_16 : decode cX6_closedOver 16 = .ok (.iload_n 3, 1) := by decide +kernel
theorem dX6_closedOver_17 : decode cX6_closedOver 17 = .ok (.baload, 1) := by decide +kernel
theorem dX6_closedOver_18 : decode cX6_closedOver 18 = .ok (.ifCond .eq 59, 3) := by decide +kernel
theorem dX6_closedOver_21 : decode cX6_closedOver 21 = .ok (.aload_n 0, 1) := by decide +kernel
theorem dX6_closedOver_22 : decode cX6_closedOver 22 = .ok (.getfield 49, 3) := by decide +kernel
theorem dX6_closedOver_25 : decode cX6_closedOver 25 = .ok (.iload_n 3, 1) := by decide +kernel
theorem dX6_closedOver_26 : decode cX6_closedOver 26 = .ok (.iaload, 1) := by decide +kernel
theorem dX6_closedOver_27 : decode cX6_closedOver 27 = .ok (.iload_n 1, 1) := by decide +kernel
theorem dX6_closedOver_28 : decode cX6_closedOver 28 = .ok (.if_icmp .gt 49, 3) := by decide +kernel
theorem dX6_closedOver_31 : decode cX6_closedOver 31 = .ok (.iload_n 1, 1) := by decide +kernel
theorem dX6_closedOver_32 : decode cX6_closedOver 32 = .ok (.aload_n 0, 1) := by decide +kernel
theorem dX6_closedOver_33 : decode cX6_closedOver 33 = .ok (.getfield 52, 3) := by decide +kernel
theorem dX6_closedOver_36 : decode cX6_closedOver 36 = .ok (.iload_n 3, 1) := by decide +kernel
theorem dX6_closedOver_37 : decode cX6_closedOver 37 = .ok (.iaload, 1) := by decide +kernel
theorem dX6_closedOver_38 : decode cX6_closedOver 38 = .ok (.if_icmp .gt 39, 3) := by decide +kernel
theorem dX6_closedOver_41 : decode cX6_closedOver 41 = .ok (.iload_n 2, 1) := by decide +kernel
theorem dX6_closedOver_42 : decode cX6_closedOver 42 = .ok (.iconst (-1), 1) := by decide +kernel
theorem dX6_closedOver_43 : decode cX6_closedOver 43 = .ok (.if_icmp .eq 32, 3) := by decide +kernel
theorem dX6_closedOver_46 : decode cX6_closedOver 46 = .ok (.aload_n 0, 1) := by decide +kernel
theorem dX6_closedOver_47 : decode cX6_closedOver 47 = .ok (.getfield 52, 3) := by decide +kernel
theorem dX6_closedOver_50 : decode cX6_closedOver 50 = .ok (.iload_n 3, 1) := by decide +kernel
theorem dX6_closedOver_51 : decode cX6_closedOver 51 = .ok (.iaload, 1) := by decide +kernel
theorem dX6_closedOver_52 : decode cX6_closedOver 52 = .ok (.aload_n 0, 1) := by decide +kernel
theorem dX6_closedOver_53 : decode cX6_closedOver 53 = .ok (.getfield 49, 3) := by decide +kernel
theorem dX6_closedOver_56 : decode cX6_closedOver 56 = .ok (.iload_n 3, 1) := by decide +kernel
theorem dX6_closedOver_57 : decode cX6_closedOver 57 = .ok (.iaload, 1) := by decide +kernel
theorem dX6_closedOver_58 : decode cX6_closedOver 58 = .ok (.isub, 1) := by decide +kernel
theorem dX6_closedOver_59 : decode cX6_closedOver 59 = .ok (.aload_n 0, 1) := by decide +kernel
theorem dX6_closedOver_60 : decode cX6_closedOver 60 = .ok (.getfield 52, 3) := by decide +kernel
theorem dX6_closedOver_63 : decode cX6_closedOver 63 = .ok (.iload_n 2, 1) := by decide +kernel
theorem dX6_closedOver_64 : decode cX6_closedOver 64 = .ok (.iaload, 1) := by decide +kernel
theorem dX6_closedOver_65 : decode cX6_closedOver 65 = .ok (.aload_n 0, 1) := by decide +kernel
theorem dX6_closedOver_66 : decode cX6_closedOver 66 = .ok (.getfield 49, 3) := by decide +kernel
theorem dX6_closedOver_69 : decode cX6_closedOver 69 = .ok (.iload_n 2, 1) := by decide +kernel
theorem dX6_closedOver_70 : decode cX6_closedOver 70 = .ok (.iaload, 1) := by decide +kernel
theorem dX6_closedOver_71 : decode cX6_closedOver 71 = .ok (.isub, 1) := by decide +kernel
theorem dX6_closedOver_72 : decode cX6_closedOver 72 = .ok (.if_icmp .le 5, 3) := by decide +kernel
theorem dX6_closedOver_75 : decode cX6_closedOver 75 = .ok (.iload_n 3, 1) := by decide +kernel
theorem dX6_closedOver_76 : decode cX6_closedOver 76 = .ok (.istore_n 2, 1) := by decide +kernel
theorem dX6_closedOver_77 : decode cX6_closedOver 77 = .ok (.iinc 3 1, 3) := by decide +kernel
theorem dX6_closedOver_80 : decode cX6_closedOver 80 = .ok (.goto (-76), 3) := by decide +kernel
theorem dX6_closedOver_83 : decode cX6_closedOver 83 = .ok (.iload_n 2, 1) := by decide +kernel
theorem dX6_closedOver_84 : decode cX6_closedOver 84 = .ok (.ireturn, 1) := by decide +kernel
theorem dX6_topOf_0 : decode cX6_topOf 0 = .ok (.aload_n 0, 1) := by decide +kernel
theorem dX6_topOf_1 : decode cX6_topOf 1 = .ok (.iload_n 1, 1) := by decide +kernel
theorem dX6_topOf_2 : decode cX6_topOf 2 = .ok (.invokevirtual 114, 3) := by decide +kernel
theorem dX6_topOf_5 : decode cX6_topOf 5 = .ok (.istore_n 2, 1) := by decide +kernel
theorem dX6_topOf_6 : decode cX6_topOf 6 = .ok (.iload_n 2, 1) := by decide +kernel
theorem dX6_topOf_7 : decode cX6_topOf 7 = .ok (.iconst (-1), 1) := by decide +kernel
theorem dX6_topOf_8 : decode cX6_topOf 8 = .ok (.if_icmp .ne 7, 3) := by decide +kernel
theorem dX6_topOf_11 : decode cX6_topOf 11 = .ok (.iload_n 1, 1) := by decide +kernel
theorem dX6_topOf_12 : decode cX6_topOf 12 = .ok (.goto 9, 3) := by decide +kernel
theorem dX6_topOf_15 : decode cX6_topOf 15 = .ok (.aload_n 0, 1) := by decide +kernel
theorem dX6_topOf_16 : decode cX6_topOf 16 = .ok (.getfield 49, 3) := by decide +kernel
theorem dX6_topOf_19 : decode cX6_topOf 19 = .ok (.iload_n 2, 1) := by decide +kernel
theorem dX6_topOf_20 : decode cX6_topOf 20 = .ok (.iaload, 1) := by decide +kernel
theorem dX6_topOf_21 : decode cX6_topOf 21 = .ok (.ireturn, 1) := by decide +kernel
theorem dX6_endOf_0 : decode cX6_endOf 0 = .ok (.aload_n 0, 1) := by decide +kernel
theorem dX6_endOf_1 : decode cX6_endOf 1 = .ok (.iload_n 1, 1) := by decide +kernel
theorem dX6_endOf_2 : decode cX6_endOf 2 = .ok (.invokevirtual 114, 3) := by decide +kernel
theorem dX6_endOf_5 : decode cX6_endOf 5 = .ok (.istore_n 2, 1) := by decide +kernel
theorem dX6_endOf_6 : decode cX6_endOf 6 = .ok (.iload_n 2, 1) := by decide +kernel
theorem dX6_endOf_7 : decode cX6_endOf 7 = .ok (.iconst (-1), 1) := by decide +kernel
theorem dX6_endOf_8 : decode cX6_endOf 8 = .ok (.if_icmp .ne 7, 3) := by decide +kernel
theorem dX6_endOf_11 : decode cX6_endOf 11 = .ok (.iload_n 1, 1) := by decide +kernel
theorem dX6_endOf_12 : decode cX6_endOf 12 = .ok (.goto 9, 3) := by decide +kernel
theorem dX6_endOf_15 : decode cX6_endOf 15 = .ok (.aload_n 0, 1) := by decide +kernel
theorem dX6_endOf_16 : decode cX6_endOf 16 = .ok (.getfield 52, 3) := by decide +kernel
theorem dX6_endOf_19 : decode cX6_endOf 19 = .ok (.iload_n 2, 1) := by decide +kernel
theorem dX6_endOf_20 : decode cX6_endOf 20 = .ok (.iaload, 1) := by decide +kernel
theorem dX6_endOf_21 : decode cX6_endOf 21 = .ok (.ireturn, 1) := by decide +kernel
theorem dX6_rowFrom_0 : decode cX6_rowFrom 0 = .ok (.iload_n 1, 1) := by decide +kernel
theorem dX6_rowFrom_1 : decode cX6_rowFrom 1 = .ok (.istore 4, 2) := by decide +kernel
theorem dX6_rowFrom_3 : decode cX6_rowFrom 3 = .ok (.iconst 0, 1) := by decide +kernel
theorem dX6_rowFrom_4 : decode cX6_rowFrom 4 = .ok (.istore 5, 2) := by decide +kernel
theorem dX6_rowFrom_6 : decode cX6_rowFrom 6 = .ok (.iload 5, 2) := by decide +kernel
theorem dX6_rowFrom_8 : decode cX6_rowFrom 8 = .ok (.iload_n 2, 1) := by decide +kernel
theorem dX6_rowFrom_9 : decode cX6_rowFrom 9 = .ok (.invokestatic 117, 3) := by decide +kernel
theorem dX6_rowFrom_12 : decode cX6_rowFrom 12 = .ok (.if_icmp .ge 47, 3) := by decide +kernel
theorem dX6_rowFrom_15 : decode cX6_rowFrom 15 = .ok (.iload_n 2, 1) := by decide +kernel
theorem dX6_rowFrom_16 : decode cX6_rowFrom 16 = .ok (.ifCond .le 14, 3) := by decide +kernel
theorem dX6_rowFrom_19 : decode cX6_rowFrom 19 = .ok (.aload_n 0, 1) := by decide +kernel
theorem dX6_rowFrom_20 : decode cX6_rowFrom 20 = .ok (.iload 4, 2) := by decide +kernel
theorem dX6_rowFrom_22 : decode cX6_rowFrom 22 = .ok (.invokevirtual 120, 3) := by decide +kernel
theorem dX6_rowFrom_25 : decode cX6_rowFrom 25 = .ok (.iconst 1, 1) := by decide +kernel
theorem dX6_rowFrom_26 : decode cX6_rowFrom 26 = .ok (.iadd, 1) := by decide +kernel
theorem dX6_rowFrom_27 : decode cX6_rowFrom 27 = .ok (.goto 11, 3) := by decide +kernel
theorem dX6_rowFrom_30 : decode cX6_rowFrom 30 = .ok (.aload_n 0, 1) := by decide +kernel
theorem dX6_rowFrom_31 : decode cX6_rowFrom 31 = .ok (.iload 4, 2) := by decide +kernel
theorem dX6_rowFrom_33 : decode cX6_rowFrom 33 = .ok (.invokevirtual 89, 3) := by decide +kernel
theorem dX6_rowFrom_36 : decode cX6_rowFrom 36 = .ok (.iconst 1, 1) := by decide +kernel
theorem dX6_rowFrom_37 : decode cX6_rowFrom 37 = .ok (.isub, 1) := by decide +kernel
theorem dX6_rowFrom_38 : decode cX6_rowFrom 38 = .ok (.istore 4, 2) := by decide +kernel
theorem dX6_rowFrom_40 : decode cX6_rowFrom 40 = .ok (.iload 4, 2) := by decide +kernel
theorem dX6_rowFrom_42 : decode cX6_rowFrom 42 = .ok (.ifCond .lt 9, 3) := by decide +kernel
theorem dX6_rowFrom_45 : decode cX6_rowFrom 45 = .ok (.iload 4, 2) := by decide +kernel
theorem dX6_rowFrom_47 : decode cX6_rowFrom 47 = .ok (.iload_n 3, 1) := by decide +kernel
theorem dX6_rowFrom_48 : decode cX6_rowFrom 48 = .ok (.if_icmp .lt 5, 3) := by decide +kernel
theorem dX6_rowFrom_51 : decode cX6_rowFrom 51 = .ok (.iconst (-1), 1) := by decide +kernel
theorem dX6_rowFrom_52 : decode cX6_rowFrom 52 = .ok (.ireturn, 1) := by decide +kernel
theorem dX6_rowFrom_53 : decode cX6_rowFrom 53 = .ok (.iinc 5 1, 3) := by decide +kernel
theorem dX6_rowFrom_56 : decode cX6_rowFrom 56 = .ok (.goto (-50), 3) := by decide +kernel
theorem dX6_rowFrom_59 : decode cX6_rowFrom 59 = .ok (.aload_n 0, 1) := by decide +kernel
theorem dX6_rowFrom_60 : decode cX6_rowFrom 60 = .ok (.iload 4, 2) := by decide +kernel
theorem dX6_rowFrom_62 : decode cX6_rowFrom 62 = .ok (.invokevirtual 89, 3) := by decide +kernel
theorem dX6_rowFrom_65 : decode cX6_rowFrom 65 = .ok (.ireturn, 1) := by decide +kernel
theorem dX6_addFold_0 : decode cX6_addFold 0 = .ok (.iload_n 1, 1) := by decide +kernel
theorem dX6_addFold_1 : decode cX6_addFold 1 = .ok (.iload_n 2, 1) := by decide +kernel
theorem dX6_addFold_2 : decode cX6_addFold 2 = .ok (.if_icmp .ge 13, 3) := by decide +kernel
theorem dX6_addFold_5 : decode cX6_addFold 5 = .ok (.aload_n 0, 1) := by decide +kernel
theorem dX6_addFold_6 : decode cX6_addFold 6 = .ok (.getfield 59, 3) := by decide +kernel
theorem dX6_addFold_9 : decode cX6_addFold 9 = .ok (.sipush 700, 3) := by decide +kernel
theorem dX6_addFold_12 : decode cX6_addFold 12 = .ok (.if_icmp .lt 5, 3) := by decide +kernel
theorem dX6_addFold_15 : decode cX6_addFold 15 = .ok (.iconst 0, 1) := by decide +kernel
theorem dX6_addFold_16 : decode cX6_addFold 16 = .ok (.ireturn, 1) := by decide +kernel
theorem dX6_addFold_17 : decode cX6_addFold 17 = .ok (.iconst 0, 1) := by decide +kernel
theorem dX6_addFold_18 : decode cX6_addFold 18 = .ok (.istore_n 3, 1) := by decide +kernel
theorem dX6_addFold_19 : decode cX6_addFold 19 = .ok (.iload_n 3, 1) := by decide +kernel
theorem dX6_addFold_20 : decode cX6_addFold 20 = .ok (.aload_n 0, 1) := by decide +kernel
theorem dX6_addFold_21 : decode cX6_addFold 21 = .ok (.getfield 59, 3) := by decide +kernel
theorem dX6_addFold_24 : decode cX6_addFold 24 = .ok (.if_icmp .ge 104, 3) := by decide +kernel
theorem dX6_addFold_27 : decode cX6_addFold 27 = .ok (.iload_n 2, 1) := by decide +kernel
theorem dX6_addFold_28 : decode cX6_addFold 28 = .ok (.aload_n 0, 1) := by decide +kernel
theorem dX6_addFold_29 : decode cX6_addFold 29 = .ok (.getfield 49, 3) := by decide +kernel
theorem dX6_addFold_32 : decode cX6_addFold 32 = .ok (.iload_n 3, 1) := by decide +kernel
theorem dX6_addFold_33 : decode cX6_addFold 33 = .ok (.iaload, 1) := by decide +kernel
theorem dX6_addFold_34 : decode cX6_addFold 34 = .ok (.if_icmp .lt 13, 3) := by decide +kernel
theorem dX6_addFold_37 : decode cX6_addFold 37 = .ok (.aload_n 0, 1) := by decide +kernel
theorem dX6_addFold_38 : decode cX6_addFold 38 = .ok (.getfield 52, 3) := by decide +kernel
theorem dX6_addFold_41 : decode cX6_addFold 41 = .ok (.iload_n 3, 1) := by decide +kernel
theorem dX6_addFold_42 : decode cX6_addFold 42 = .ok (.iaload, 1) := by decide +kernel
theorem dX6_addFold_43 : decode cX6_addFold 43 = .ok (.iload_n 1, 1) := by decide +kernel
theorem dX6_addFold_44 : decode cX6_addFold 44 = .ok (.if_icmp .ge 7, 3) := by decide +kernel
theorem dX6_addFold_47 : decode cX6_addFold 47 = .ok (.iconst 1, 1) := by decide +kernel
theorem dX6_addFold_48 : decode cX6_addFold 48 = .ok (.goto 4, 3) := by decide +kernel
theorem dX6_addFold_51 : decode cX6_addFold 51 = .ok (.iconst 0, 1) := by decide +kernel
theorem dX6_addFold_52 : decode cX6_addFold 52 = .ok (.istore 4, 2) := by decide +kernel
theorem dX6_addFold_54 : decode cX6_addFold 54 = .ok (.aload_n 0, 1) := by decide +kernel
theorem dX6_addFold_55 : decode cX6_addFold 55 = .ok (.getfield 49, 3) := by decide +kernel
theorem dX6_addFold_58 : decode cX6_addFold 58 = .ok (.iload_n 3, 1) := by decide +kernel
theorem dX6_addFold_59 : decode cX6_addFold 59 = .ok (.iaload, 1) := by decide +kernel
theorem dX6_addFold_60 : decode cX6_addFold 60 = .ok (.iload_n 1, 1) := by decide +kernel
theorem dX6_addFold_61 : decode cX6_addFold 61 = .ok (.if_icmp .gt 17, 3) := by decide +kernel
theorem dX6_addFold_64 : decode cX6_addFold 64 = .ok (.iload_n 2, 1) := by decide +kernel
theorem dX6_addFold_65 : decode cX6_addFold 65 = .ok (.aload_n 0, 1) := by decide +kernel
theorem dX6_addFold_66 : decode cX6_addFold 66 = .ok (.getfield 52, 3) := by decide +kernel
theorem dX6_addFold_69 : decode cX6_addFold 69 = .ok (.iload_n 3, 1) := by decide +kernel
theorem dX6_addFold_70 : decode cX6_addFold 70 = .ok (.iaload, 1) := by decide +kernel
theorem dX6_addFold_71 : decode cX6_addFold 71 = .ok (.if_icmp .gt 7, 3) := by decide +kernel
theorem dX6_addFold_74 : decode cX6_addFold 74 = .ok (.iconst 1, 1) := by decide +kernel
theorem dX6_addFold_75 : decode cX6_addFold 75 = .ok (.goto 4, 3) := by decide +kernel
theorem dX6_addFold_78 : decode cX6_addFold 78 = .ok (.iconst 0, 1) := by decide +kernel
theorem dX6_addFold_79 : decode cX6_addFold 79 = .ok (.istore 5, 2) := by decide +kernel
theorem dX6_addFold_81 : decode cX6_addFold 81 = .ok (.iload_n 1, 1) := by decide +kernel
theorem dX6_addFold_82 : decode cX6_addFold 82 = .ok (.aload_n 0, 1) := by decide +kernel
theorem dX6_addFold_83 : decode cX6_addFold 83 = .ok (.getfield 49, 3) := by decide +kernel
theorem dX6_addFold_86 : decode cX6_addFold 86 = .ok (.iload_n 3, 1) := by decide +kernel
theorem dX6_addFold_87 : decode cX6_addFold 87 = .ok (.iaload, 1) := by decide +kernel
theorem dX6_addFold_88 : decode cX6_addFold 88 = .ok (.if_icmp .gt 17, 3) := by decide +kernel
theorem dX6_addFold_91 : decode cX6_addFold 91 = .ok (.aload_n 0, 1) := by decide +kernel
theorem dX6_addFold_92 : decode cX6_addFold 92 = .ok (.getfield 52, 3) := by decide +kernel
theorem dX6_addFold_95 : decode cX6_addFold 95 = .ok (.iload_n 3, 1) := by decide +kernel
theorem dX6_addFold_96 : decode cX6_addFold 96 = .ok (.iaload, 1) := by decide +kernel
theorem dX6_addFold_97 : decode cX6_addFold 97 = .ok (.iload_n 2, 1) := by decide +kernel
theorem dX6_addFold_98 : decode cX6_addFold 98 = .ok (.if_icmp .gt 7, 3) := by decide +kernel
theorem dX6_addFold_101 : decode cX6_addFold 101 = .ok (.iconst 1, 1) := by decide +kernel
theorem dX6_addFold_102 : decode cX6_addFold 102 = .ok (.goto 4, 3) := by decide +kernel
theorem dX6_addFold_105 : decode cX6_addFold 105 = .ok (.iconst 0, 1) := by decide +kernel
theorem dX6_addFold_106 : decode cX6_addFold 106 = .ok (.istore 6, 2) := by decide +kernel
theorem dX6_addFold_108 : decode cX6_addFold 108 = .ok (.iload 4, 2) := by decide +kernel
theorem dX6_addFold_110 : decode cX6_addFold 110 = .ok (.ifCond .ne 12, 3) := by decide +kernel
theorem dX6_addFold_113 : decode cX6_addFold 113 = .ok (.iload 5, 2) := by decide +kernel
theorem dX6_addFold_115 : decode cX6_addFold 115 = .ok (.iload 6, 2) := by decide +kernel
theorem dX6_addFold_117 : decode cX6_addFold 117 = .ok (.if_icmp .ne 5, 3) := by decide +kernel
theorem dX6_addFold_120 : decode cX6_addFold 120 = .ok (.iconst 0, 1) := by decide +kernel
theorem dX6_addFold_121 : decode cX6_addFold 121 = .ok (.ireturn, 1) := by decide +kernel
theorem dX6_addFold_122 : decode cX6_addFold 122 = .ok (.iinc 3 1, 3) := by decide +kernel
theorem dX6_addFold_125 : decode cX6_addFold 125 = .ok (.goto (-106), 3) := by decide +kernel
theorem dX6_addFold_128 : decode cX6_addFold 128 = .ok (.aload_n 0, 1) := by decide +kernel
theorem dX6_addFold_129 : decode cX6_addFold 129 = .ok (.getfield 49, 3) := by decide +kernel
theorem dX6_addFold_132 : decode cX6_addFold 132 = .ok (.aload_n 0, 1) := by decide +kernel
theorem dX6_addFold_133 : decode cX6_addFold 133 = .ok (.getfield 59, 3) := by decide +kernel
theorem dX6_addFold_136 : decode cX6_addFold 136 = .ok (.iload_n 1, 1) := by decide +kernel
theorem dX6_addFold_137 : decode cX6_addFold 137 = .ok (.iastore, 1) := by decide +kernel
theorem dX6_addFold_138 : decode cX6_addFold 138 = .ok (.aload_n 0, 1) := by decide +kernel
theorem dX6_addFold_139 : decode cX6_addFold 139 = .ok (.getfield 52, 3) := by decide +kernel
theorem dX6_addFold_142 : decode cX6_addFold 142 = .ok (.aload_n 0, 1) := by decide +kernel
theorem dX6_addFold_143 : decode cX6_addFold 143 = .ok (.getfield 59, 3) := by decide +kernel
theorem dX6_addFold_146 : decode cX6_addFold 146 = .ok (.iload_n 2, 1) := by decide +kernel
theorem dX6_addFold_147 : decode cX6_addFold 147 = .ok (.iastore, 1) := by decide +kernel
theorem dX6_addFold_148 : decode cX6_addFold 148 = .ok (.aload_n 0, 1) := by decide +kernel
theorem dX6_addFold_149 : decode cX6_addFold 149 = .ok (.getfield 55, 3) := by decide +kernel
theorem dX6_addFold_152 : decode cX6_addFold 152 = .ok (.aload_n 0, 1) := by decide +kernel
theorem dX6_addFold_153 : decode cX6_addFold 153 = .ok (.getfield 59, 3) := by decide +kernel
theorem dX6_addFold_156 : decode cX6_addFold 156 = .ok (.iconst 1, 1) := by decide +kernel
theorem dX6_addFold_157 : decode cX6_addFold 157 = .ok (.bastore, 1) := by decide +kernel
theorem dX6_addFold_158 : decode cX6_addFold 158 = .ok (.aload_n 0, 1) := by decide +kernel
theorem dX6_addFold_159 : decode cX6_addFold 159 = .ok (.dup, 1) := by decide +kernel
theorem dX6_addFold_160 : decode cX6_addFold 160 = .ok (.getfield 59, 3) := by decide +kernel
theorem dX6_addFold_163 : decode cX6_addFold 163 = .ok (.iconst 1, 1) := by decide +kernel
theorem dX6_addFold_164 : decode cX6_addFold 164 = .ok (.iadd, 1) := by decide +kernel
theorem dX6_addFold_165 : decode cX6_addFold 165 = .ok (.putfield 59, 3) := by decide +kernel
theorem dX6_addFold_168 : decode cX6_addFold 168 = .ok (.iconst 1, 1) := by decide +kernel
theorem dX6_addFold_169 : decode cX6_addFold 169 = .ok (.ireturn, 1) := by decide +kernel
theorem dX6_innermost_0 : decode cX6_innermost 0 = .ok (.iconst (-1), 1) := by decide +kernel
theorem dX6_innermost_1 : decode cX6_innermost 1 = .ok (.istore_n 3, 1) := by decide +kernel
theorem dX6_innermost_2 : decode cX6_innermost 2 = .ok (.iconst 0, 1) := by decide +kernel
theorem dX6_innermost_3 : decode cX6_innermost 3 = .ok (.istore 4, 2) := by decide +kernel
theorem dX6_innermost_5 : decode cX6_innermost 5 = .ok (.iload 4, 2) := by decide +kernel
theorem dX6_innermost_7 : decode cX6_innermost 7 = .ok (.aload_n 0, 1) := by decide +kernel
theorem dX6_innermost_8 : decode cX6_innermost 8 = .ok (.getfield 59, 3) := by decide +kernel
theorem dX6_innermost_11 : decode cX6_innermost 11 = .ok (.if_icmp .ge 124, 3) := by decide +kernel
theorem dX6_innermost_14 : decode cX6_innermost 14 = .ok (.aload_n 0, 1) := by decide +kernel
theorem dX6_innermost_15 : decode cX6_innermost 15 = .ok (.getfield 49, 3) := by decide +kernel
theorem dX6_innermost_18 : decode cX6_innermost 18 = .ok (.iload 4, 2) := by decide +kernel
theorem dX6_innermost_20 : decode cX6_innermost 20 = .ok (.iaload, 1) := by decide +kernel
theorem dX6_innermost_21 : decode cX6_innermost 21 = .ok (.aload_n 0, 1) := by decide +kernel
theorem dX6_innermost_22 : decode cX6_innermost 22 = .ok (.getfield 9, 3) := by decide +kernel
theorem dX6_innermost_25 : decode cX6_innermost 25 = .ok (.if_icmp .gt 104, 3) := by decide +kernel
theorem dX6_innermost_28 : decode cX6_innermost 28 = .ok (.aload_n 0, 1) := by decide +kernel
theorem dX6_innermost_29 : decode cX6_innermost 29 = .ok (.getfield 52, 3) := by decide +kernel
theorem dX6_innermost_32 : decode cX6_innermost 32 = .ok (.iload 4, 2) := by decide +kernel
theorem dX6_innermost_34 : decode cX6_innermost 34 = .ok (.iaload, 1) := by decide +kernel
theorem dX6_innermost_35 : decode cX6_innermost 35 = .ok (.aload_n 0, 1) := by decide +kernel
theorem dX6_innermost_36 : decode cX6_innermost 36 = .ok (.getfield 9, 3) := by decide +kernel
theorem dX6_innermost_39 : decode cX6_innermost 39 = .ok (.if_icmp .lt 90, 3) := by decide +kernel
theorem dX6_innermost_42 : decode cX6_innermost 42 = .ok (.aload_n 0, 1) := by decide +kernel
theorem dX6_innermost_43 : decode cX6_innermost 43 = .ok (.getfield 55, 3) := by decide +kernel
theorem dX6_innermost_46 : decode cX6_innermost 46 = .ok (.iload 4, 2) := by decide +kernel
theorem dX6_innermost_48 : decode cX6_innermost 48 = .ok (.baload, 1) := by decide +kernel
theorem dX6_innermost_49 : decode cX6_innermost 49 = .ok (.ifCond .eq 10, 3) := by decide +kernel
theorem dX6_innermost_52 : decode cX6_innermost 52 = .ok (.iload_n 1, 1) := by decide +kernel
theorem dX6_innermost_53 : decode cX6_innermost 53 = .ok (.ifCond .eq 76, 3) := by decide +kernel
theorem dX6_innermost_56 : decode cX6_innermost 56 = .ok (.goto 10, 3) := by decide +kernel
theorem dX6_innermost_59 : decode cX6_innermost 59 = .ok (.iload_n 2, 1) := by decide +kernel
theorem dX6_innermost_60 : decode cX6_innermost 60 = .ok (.ifCond .ne 6, 3) := by decide +kernel
theorem dX6_innermost_63 : decode cX6_innermost 63 = .ok (.goto 66, 3) := by decide +kernel
theorem dX6_innermost_66 : decode cX6_innermost 66 = .ok (.iload_n 3, 1) := by decide +kernel
theorem dX6_innermost_67 : decode cX6_innermost 67 = .ok (.iconst (-1), 1) := by decide +kernel
theorem dX6_innermost_68 : decode cX6_innermost 68 = .ok (.if_icmp .ne 7, 3) := by decide +kernel
theorem dX6_innermost_71 : decode cX6_innermost 71 = .ok (.iconst 1, 1) := by decide +kernel
theorem dX6_innermost_72 : decode cX6_innermost 72 = .ok (.goto 32, 3) := by decide +kernel
theorem dX6_innermost_75 : decode cX6_innermost 75 = .ok (.aload_n 0, 1) := by decide +kernel
theorem dX6_innermost_76 : decode cX6_innermost 76 = .ok (.getfield 52, 3) := by decide +kernel
theorem dX6_innermost_79 : decode cX6_innermost 79 = .ok (.iload_n 3, 1) := by decide +kernel
theorem dX6_innermost_80 : decode cX6_innermost 80 = .ok (.iaload, 1) := by decide +kernel
theorem dX6_innermost_81 : decode cX6_innermost 81 = .ok (.aload_n 0, 1) := by decide +kernel
theorem dX6_innermost_82 : decode cX6_innermost 82 = .ok (.getfield 49, 3) := by decide +kernel
theorem dX6_innermost_85 : decode cX6_innermost 85 = .ok (.iload_n 3, 1) := by decide +kernel
theorem dX6_innermost_86 : decode cX6_innermost 86 = .ok (.iaload, 1) := by decide +kernel
theorem dX6_innermost_87 : decode cX6_innermost 87 = .ok (.isub, 1) := by decide +kernel
theorem dX6_innermost_88 : decode cX6_innermost 88 = .ok (.aload_n 0, 1) := by decide +kernel
theorem dX6_innermost_89 : decode cX6_innermost 89 = .ok (.getfield 52, 3) := by decide +kernel
theorem dX6_innermost_92 : decode cX6_innermost 92 = .ok (.iload 4, 2) := by decide +kernel
theorem dX6_innermost_94 : decode cX6_innermost 94 = .ok (.iaload, 1) := by decide +kernel
theorem dX6_innermost_95 : decode cX6_innermost 95 = .ok (.isub, 1) := by decide +kernel
theorem dX6_innermost_96 : decode cX6_innermost 96 = .ok (.aload_n 0, 1) := by decide +kernel
theorem dX6_innermost_97 : decode cX6_innermost 97 = .ok (.getfield 49, 3) := by decide +kernel
theorem dX6_innermost_100 : decode cX6_innermost 100 = .ok (.iload 4, 2) := by decide +kernel
theorem dX6_innermost_102 : decode cX6_innermost 102 = .ok (.iaload, 1) := by decide +kernel
theorem dX6_innermost_103 : decode cX6_innermost 103 = .ok (.iadd, 1) := by decide +kernel
theorem dX6_innermost_104 : decode cX6_innermost 104 = .ok (.istore 5, 2) := by decide +kernel
theorem dX6_innermost_106 : decode cX6_innermost 106 = .ok (.iload 5, 2) := by decide +kernel
theorem dX6_innermost_108 : decode cX6_innermost 108 = .ok (.ifCond .gt 18, 3) := by decide +kernel
theorem dX6_innermost_111 : decode cX6_innermost 111 = .ok (.iload 5, 2) := by decide +kernel
theorem dX6_innermost_113 : decode cX6_innermost 113 = .ok (.ifCond .ne 16, 3) := by decide +kernel
theorem dX6_innermost_116 : decode cX6_innermost 116 = .ok (.aload_n 0, 1) := by decide +kernel
theorem dX6_innermost_117 : decode cX6_innermost 117 = .ok (.getfield 55, 3) := by decide +kernel
theorem dX6_innermost_120 : decode cX6_innermost 120 = .ok (.iload 4, 2) := by decide +kernel
theorem dX6_innermost_122 : decode cX6_innermost 122 = .ok (.baload, 1) := by decide +kernel
theorem dX6_innermost_123 : decode cX6_innermost 123 = .ok (.ifCond .eq 6, 3) := by decide +kernel
theorem dX6_innermost_126 : decode cX6_innermost 126 = .ok (.iload 4, 2) := by decide +kernel
theorem dX6_innermost_128 : decode cX6_innermost 128 = .ok (.istore_n 3, 1) := by decide +kernel
theorem dX6_innermost_129 : decode cX6_innermost 129 = .ok (.iinc 4 1, 3) := by decide +kernel
theorem dX6_innermost_132 : decode cX6_innermost 132 = .ok (.goto (-127), 3) := by decide +kernel
theorem dX6_innermost_135 : decode cX6_innermost 135 = .ok (.iload_n 3, 1) := by decide +kernel
theorem dX6_innermost_136 : decode cX6_innermost 136 = .ok (.ireturn, 1) := by decide +kernel
theorem dX6_changeFold_0 : decode cX6_changeFold 0 = .ok (.aload_n 0, 1) := by decide +kernel
theorem dX6_changeFold_1 : decode cX6_changeFold 1 = .ok (.iload_n 1, 1) := by decide +kernel
theorem dX6_changeFold_2 : decode cX6_changeFold 2 = .ok (.sipush 31331, 3) := by decide +kernel
theorem dX6_changeFold_5 : decode cX6_changeFold 5 = .ok (.if_icmp .eq 7, 3) := by decide +kernel
theorem dX6_changeFold_8 : decode cX6_changeFold 8 = .ok (.iconst 1, 1) := by decide +kernel
theorem dX6_changeFold_9 : decode cX6_changeFold 9 = .ok (.goto 4, 3) := by decide +kernel
theorem dX6_changeFold_12 : decode cX6_changeFold 12 = .ok (.iconst 0, 1) := by decide +kernel
theorem dX6_changeFold_13 : decode cX6_changeFold 13 = .ok (.iload_n 1, 1) := by decide +kernel
theorem dX6_changeFold_14 : decode cX6_changeFold 14 = .ok (.sipush 31343, 3) := by decide +kernel
theorem dX6_changeFold_17 : decode cX6_changeFold 17 = .ok (.if_icmp .eq 7, 3) := by decide +kernel
theorem dX6_changeFold_20 : decode cX6_changeFold 20 = .ok (.iconst 1, 1) := by decide +kernel
theorem dX6_changeFold_21 : decode cX6_changeFold 21 = .ok (.goto 4, 3) := by decide +kernel
theorem dX6_changeFold_24 : decode cX6_changeFold 24 = .ok (.iconst 0, 1) := by decide +kernel
theorem dX6_changeFold_25 : decode cX6_changeFold 25 = .ok (.invokevirtual 123, 3) := by decide +kernel
theorem dX6_changeFold_28 : decode cX6_changeFold 28 = .ok (.istore_n 2, 1) := by decide +kernel
theorem dX6_changeFold_29 : decode cX6_changeFold 29 = .ok (.iload_n 2, 1) := by decide +kernel
theorem dX6_changeFold_30 : decode cX6_changeFold 30 = .ok (.iconst (-1), 1) := by decide +kernel
theorem dX6_changeFold_31 : decode cX6_changeFold 31 = .ok (.if_icmp .ne 5, 3) := by decide +kernel
theorem dX6_changeFold_34 : decode cX6_changeFold 34 = .ok (.iconst 0, 1) := by decide +kernel
theorem dX6_changeFold_35 : decode cX6_changeFold 35 = .ok (.ireturn, 1) := by decide +kernel
theorem dX6_changeFold_36 : decode cX6_changeFold 36 = .ok (.iload_n 1, 1) := by decide +kernel
theorem dX6_changeFold_37 : decode cX6_changeFold 37 = .ok (.sipush 31332, 3) := by decide +kernel
theorem dX6_changeFold_40 : decode cX6_changeFold 40 = .ok (.if_icmp .ne 61, 3) := by decide +kernel
theorem dX6_changeFold_43 : decode cX6_changeFold 43 = .ok (.aload_n 0, 1) := by decide +kernel
theorem dX6_changeFold_44 : decode cX6_changeFold 44 = .ok (.dup, 1) := by decide +kernel
theorem dX6_changeFold_45 : decode cX6_changeFold 45 = .ok (.getfield 59, 3) := by decide +kernel
theorem dX6_changeFold_48 : decode cX6_changeFold 48 = .ok (.iconst 1, 1) := by decide +kernel
theorem dX6_changeFold_49 : decode cX6_changeFold 49 = .ok (.isub, 1) := by decide +kernel
theorem dX6_changeFold_50 : decode cX6_changeFold 50 = .ok (.putfield 59, 3) := by decide +kernel
theorem dX6_changeFold_53 : decode cX6_changeFold 53 = .ok (.aload_n 0, 1) := by decide +kernel
theorem dX6_changeFold_54 : decode cX6_changeFold 54 = .ok (.getfield 49, 3) := by decide +kernel
theorem dX6_changeFold_57 : decode cX6_changeFold 57 = .ok (.iload_n 2, 1) := by decide +kernel
theorem dX6_changeFold_58 : decode cX6_changeFold 58 = .ok (.aload_n 0, 1) := by decide +kernel
theorem dX6_changeFold_59 : decode cX6_changeFold 59 = .ok (.getfield 49, 3) := by decide +kernel
theorem dX6_changeFold_62 : decode cX6_changeFold 62 = .ok (.aload_n 0, 1) := by decide +kernel
theorem dX6_changeFold_63 : decode cX6_changeFold 63 = .ok (.getfield 59, 3) := by decide +kernel
theorem dX6_changeFold_66 : decode cX6_changeFold 66 = .ok (.iaload, 1) := by decide +kernel
theorem dX6_changeFold_67 : decode cX6_changeFold 67 = .ok (.iastore, 1) := by decide +kernel
theorem dX6_changeFold_68 : decode cX6_changeFold 68 = .ok (.aload_n 0, 1) := by decide +kernel
theorem dX6_changeFold_69 : decode cX6_changeFold 69 = .ok (.getfield 52, 3) := by decide +kernel
theorem dX6_changeFold_72 : decode cX6_changeFold 72 = .ok (.iload_n 2, 1) := by decide +kernel
theorem dX6_changeFold_73 : decode cX6_changeFold 73 = .ok (.aload_n 0, 1) := by decide +kernel
theorem dX6_changeFold_74 : decode cX6_changeFold 74 = .ok (.getfield 52, 3) := by decide +kernel
theorem dX6_changeFold_77 : decode cX6_changeFold 77 = .ok (.aload_n 0, 1) := by decide +kernel
theorem dX6_changeFold_78 : decode cX6_changeFold 78 = .ok (.getfield 59, 3) := by decide +kernel
theorem dX6_changeFold_81 : decode cX6_changeFold 81 = .ok (.iaload, 1) := by decide +kernel
theorem dX6_changeFold_82 : decode cX6_changeFold 82 = .ok (.iastore, 1) := by decide +kernel
theorem dX6_changeFold_83 : decode cX6_changeFold 83 = .ok (.aload_n 0, 1) := by decide +kernel
theorem dX6_changeFold_84 : decode cX6_changeFold 84 = .ok (.getfield 55, 3) := by decide +kernel
theorem dX6_changeFold_87 : decode cX6_changeFold 87 = .ok (.iload_n 2, 1) := by decide +kernel
theorem dX6_changeFold_88 : decode cX6_changeFold 88 = .ok (.aload_n 0, 1) := by decide +kernel
theorem dX6_changeFold_89 : decode cX6_changeFold 89 = .ok (.getfield 55, 3) := by decide +kernel
theorem dX6_changeFold_92 : decode cX6_changeFold 92 = .ok (.aload_n 0, 1) := by decide +kernel
theorem dX6_changeFold_93 : decode cX6_changeFold 93 = .ok (.getfield 59, 3) := by decide +kernel
theorem dX6_changeFold_96 : decode cX6_changeFold 96 = .ok (.baload, 1) := by decide +kernel
theorem dX6_changeFold_97 : decode cX6_changeFold 97 = .ok (.bastore, 1) := by decide +kernel
theorem dX6_changeFold_98 : decode cX6_changeFold 98 = .ok (.goto 21, 3) := by decide +kernel
theorem dX6_changeFold_101 : decode cX6_changeFold 101 = .ok (.aload_n 0, 1) := by decide +kernel
theorem dX6_changeFold_102 : decode cX6_changeFold 102 = .ok (.getfield 55, 3) := by decide +kernel
theorem dX6_changeFold_105 : decode cX6_changeFold 105 = .ok (.iload_n 2, 1) := by decide +kernel
theorem dX6_changeFold_106 : decode cX6_changeFold 106 = .ok (.iload_n 1, 1) := by decide +kernel
theorem dX6_changeFold_107 : decode cX6_changeFold 107 = .ok (.sipush 31331, 3) := by decide +kernel
theorem dX6_changeFold_110 : decode cX6_changeFold 110 = .ok (.if_icmp .ne 7, 3) := by decide +kernel
theorem dX6_changeFold_113 : decode cX6_changeFold 113 = .ok (.iconst 1, 1) := by decide +kernel
theorem dX6_changeFold_114 : decode cX6_changeFold 114 = .ok (.goto 4, 3) := by decide +kernel
theorem dX6_changeFold_117 : decode cX6_changeFold 117 = .ok (.iconst 0, 1) := by decide +kernel
theorem dX6_changeFold_118 : decode cX6_changeFold 118 = .ok (.bastore, 1) := by decide +kernel
theorem dX6_changeFold_119 : decode cX6_changeFold 119 = .ok (.iconst 1, 1) := by decide +kernel
theorem dX6_changeFold_120 : decode cX6_changeFold 120 = .ok (.ireturn, 1) := by decide +kernel
theorem dX6_openFolds_0 : decode cX6_openFolds 0 = .ok (.iconst 0, 1) := by decide +kernel
theorem dX6_openFolds_1 : decode cX6_openFolds 1 = .ok (.istore_n 1, 1) := by decide +kernel
theorem dX6_openFolds_2 : decode cX6_openFolds 2 = .ok (.iload_n 1, 1) := by decide +kernel
theorem dX6_openFolds_3 : decode cX6_openFolds 3 = .ok (.aload_n 0, 1) := by decide +kernel
theorem dX6_openFolds_4 : decode cX6_openFolds 4 = .ok (.getfield 59, 3) := by decide +kernel
theorem dX6_openFolds_7 : decode cX6_openFolds 7 = .ok (.if_icmp .ge 42, 3) := by decide +kernel
theorem dX6_openFolds_10 : decode cX6_openFolds 10 = .ok (.aload_n 0, 1) := by decide +kernel
theorem dX6_openFolds_11 : decode cX6_openFolds 11 = .ok (.getfield 49, 3) := by decide +kernel
theorem dX6_openFolds_14 : decode cX6_openFolds 14 = .ok (.iload_n 1, 1) := by decide +kernel
theorem dX6_openFolds_15 : decode cX6_openFolds 15 = .ok (.iaload, 1) := by decide +kernel
theorem dX6_openFolds_16 : decode cX6_openFolds 16 = .ok (.aload_n 0, 1) := by decide +kernel
theorem dX6_openFolds_17 : decode cX6_openFolds 17 = .ok (.getfield 9, 3) := by decide +kernel
theorem dX6_openFolds_20 : decode cX6_openFolds 20 = .ok (.if_icmp .gt 23, 3) := by decide +kernel
theorem dX6_openFolds_23 : decode cX6_openFolds 23 = .ok (.aload_n 0, 1) := by decide +kernel
theorem dX6_openFolds_24 : decode cX6_openFolds 24 = .ok (.getfield 9, 3) := by decide +kernel
theorem dX6_openFolds_27 : decode cX6_openFolds 27 = .ok (.aload_n 0, 1) := by decide +kernel
theorem dX6_openFolds_28 : decode cX6_openFolds 28 = .ok (.getfield 52, 3) := by decide +kernel
theorem dX6_openFolds_31 : decode cX6_openFolds 31 = .ok (.iload_n 1, 1) := by decide +kernel
theorem dX6_openFolds_32 : decode cX6_openFolds 32 = .ok (.iaload, 1) := by decide +kernel
theorem dX6_openFolds_33 : decode cX6_openFolds 33 = .ok (.if_icmp .gt 10, 3) := by decide +kernel
theorem dX6_openFolds_36 : decode cX6_openFolds 36 = .ok (.aload_n 0, 1) := by decide +kernel
theorem dX6_openFolds_37 : decode cX6_openFolds 37 = .ok (.getfield 55, 3) := by decide +kernel
theorem dX6_openFolds_40 : decode cX6_openFolds 40 = .ok (.iload_n 1, 1) := by decide +kernel
theorem dX6_openFolds_41 : decode cX6_openFolds 41 = .ok (.iconst 0, 1) := by decide +kernel
theorem dX6_openFolds_42 : decode cX6_openFolds 42 = .ok (.bastore, 1) := by decide +kernel
theorem dX6_openFolds_43 : decode cX6_openFolds 43 = .ok (.iinc 1 1, 3) := by decide +kernel
theorem dX6_openFolds_46 : decode cX6_openFolds 46 = .ok (.goto (-44), 3) := by decide +kernel
theorem dX6_openFolds_49 : decode cX6_openFolds 49 = .ok (.return_, 1) := by decide +kernel
theorem dX6_linesPut_0 : decode cX6_linesPut 0 = .ok (.iconst 0, 1) := by decide +kernel
theorem dX6_linesPut_1 : decode cX6_linesPut 1 = .ok (.istore_n 3, 1) := by decide +kernel
theorem dX6_linesPut_2 : decode cX6_linesPut 2 = .ok (.iload_n 3, 1) := by decide +kernel
theorem dX6_linesPut_3 : decode cX6_linesPut 3 = .ok (.aload_n 0, 1) := by decide +kernel
theorem dX6_linesPut_4 : decode cX6_linesPut 4 = .ok (.getfield 24, 3) := by decide +kernel
theorem dX6_linesPut_7 : decode cX6_linesPut 7 = .ok (.arraylength, 1) := by decide +kernel
theorem dX6_linesPut_8 : decode cX6_linesPut 8 = .ok (.if_icmp .ge 39, 3) := by decide +kernel
theorem dX6_linesPut_11 : decode cX6_linesPut 11 = .ok (.aload_n 0, 1) := by decide +kernel
theorem dX6_linesPut_12 : decode cX6_linesPut 12 = .ok (.getfield 24, 3) := by decide +kernel
theorem dX6_linesPut_15 : decode cX6_linesPut 15 = .ok (.iload_n 3, 1) := by decide +kernel
theorem dX6_linesPut_16 : decode cX6_linesPut 16 = .ok (.dup2, 1) := by decide +kernel
theorem dX6_linesPut_17 : decode cX6_linesPut 17 = .ok (.iaload, 1) := by decide +kernel
theorem dX6_linesPut_18 : decode cX6_linesPut 18 = .ok (.aload_n 0, 1) := by decide +kernel
theorem dX6_linesPut_19 : decode cX6_linesPut 19 = .ok (.getfield 24, 3) := by decide +kernel
theorem dX6_linesPut_22 : decode cX6_linesPut 22 = .ok (.iload_n 3, 1) := by decide +kernel
theorem dX6_linesPut_23 : decode cX6_linesPut 23 = .ok (.iaload, 1) := by decide +kernel
theorem dX6_linesPut_24 : decode cX6_linesPut 24 = .ok (.iload_n 1, 1) := by decide +kernel
theorem dX6_linesPut_25 : decode cX6_linesPut 25 = .ok (.bipush 100, 2) := by decide +kernel
theorem dX6_linesPut_27 : decode cX6_linesPut 27 = .ok (.imul, 1) := by decide +kernel
theorem dX6_linesPut_28 : decode cX6_linesPut 28 = .ok (.if_icmp .lt 10, 3) := by decide +kernel
theorem dX6_linesPut_31 : decode cX6_linesPut 31 = .ok (.iload_n 2, 1) := by decide +kernel
theorem dX6_linesPut_32 : decode cX6_linesPut 32 = .ok (.bipush 100, 2) := by decide +kernel
theorem dX6_linesPut_34 : decode cX6_linesPut 34 = .ok (.imul, 1) := by decide +kernel
theorem dX6_linesPut_35 : decode cX6_linesPut 35 = .ok (.goto 4, 3) := by decide +kernel
theorem dX6_linesPut_38 : decode cX6_linesPut 38 = .ok (.iconst 0, 1) := by decide +kernel
theorem dX6_linesPut_39 : decode cX6_linesPut 39 = .ok (.iadd, 1) := by decide +kernel
theorem dX6_linesPut_40 : decode cX6_linesPut 40 = .ok (.iastore, 1) := by decide +kernel
theorem dX6_linesPut_41 : decode cX6_linesPut 41 = .ok (.iinc 3 1, 3) := by decide +kernel
theorem dX6_linesPut_44 : decode cX6_linesPut 44 = .ok (.goto (-42), 3) := by decide +kernel
theorem dX6_linesPut_47 : decode cX6_linesPut 47 = .ok (.iconst 0, 1) := by decide +kernel
theorem dX6_linesPut_48 : decode cX6_linesPut 48 = .ok (.istore_n 3, 1) := by decide +kernel
theorem dX6_linesPut_49 : decode cX6_linesPut 49 = .ok (.iload_n 3, 1) := by decide +kernel
theorem dX6_linesPut_50 : decode cX6_linesPut 50 = .ok (.aload_n 0, 1) := by decide +kernel
theorem dX6_linesPut_51 : decode cX6_linesPut 51 = .ok (.getfield 31, 3) := by decide +kernel
theorem dX6_linesPut_54 : decode cX6_linesPut 54 = .ok (.if_icmp .ge 39, 3) := by decide +kernel
theorem dX6_linesPut_57 : decode cX6_linesPut 57 = .ok (.aload_n 0, 1) := by decide +kernel
theorem dX6_linesPut_58 : decode cX6_linesPut 58 = .ok (.getfield 28, 3) := by decide +kernel
theorem dX6_linesPut_61 : decode cX6_linesPut 61 = .ok (.iload_n 3, 1) := by decide +kernel
theorem dX6_linesPut_62 : decode cX6_linesPut 62 = .ok (.dup2, 1) := by decide +kernel
theorem dX6_linesPut_63 : decode cX6_linesPut 63 = .ok (.iaload, 1) := by decide +kernel
theorem dX6_linesPut_64 : decode cX6_linesPut 64 = .ok (.aload_n 0, 1) := by decide +kernel
theorem dX6_linesPut_65 : decode cX6_linesPut 65 = .ok (.getfield 28, 3) := by decide +kernel
theorem dX6_linesPut_68 : decode cX6_linesPut 68 = .ok (.iload_n 3, 1) := by decide +kernel
theorem dX6_linesPut_69 : decode cX6_linesPut 69 = .ok (.iaload, 1) := by decide +kernel
theorem dX6_linesPut_70 : decode cX6_linesPut 70 = .ok (.iload_n 1, 1) := by decide +kernel
theorem dX6_linesPut_71 : decode cX6_linesPut 71 = .ok (.bipush 100, 2) := by decide +kernel
theorem dX6_linesPut_73 : decode cX6_linesPut 73 = .ok (.imul, 1) := by decide +kernel
theorem dX6_linesPut_74 : decode cX6_linesPut 74 = .ok (.if_icmp .lt 10, 3) := by decide +kernel
theorem dX6_linesPut_77 : decode cX6_linesPut 77 = .ok (.iload_n 2, 1) := by decide +kernel
theorem dX6_linesPut_78 : decode cX6_linesPut 78 = .ok (.bipush 100, 2) := by decide +kernel
theorem dX6_linesPut_80 : decode cX6_linesPut 80 = .ok (.imul, 1) := by decide +kernel
theorem dX6_linesPut_81 : decode cX6_linesPut 81 = .ok (.goto 4, 3) := by decide +kernel
theorem dX6_linesPut_84 : decode cX6_linesPut 84 = .ok (.iconst 0, 1) := by decide +kernel
theorem dX6_linesPut_85 : decode cX6_linesPut 85 = .ok (.iadd, 1) := by decide +kernel
theorem dX6_linesPut_86 : decode cX6_linesPut 86 = .ok (.iastore, 1) := by decide +kernel
theorem dX6_linesPut_87 : decode cX6_linesPut 87 = .ok (.iinc 3 1, 3) := by decide +kernel
theorem dX6_linesPut_90 : decode cX6_linesPut 90 = .ok (.goto (-41), 3) := by decide +kernel
theorem dX6_linesPut_93 : decode cX6_linesPut 93 = .ok (.iconst 0, 1) := by decide +kernel
theorem dX6_linesPut_94 : decode cX6_linesPut 94 = .ok (.istore_n 3, 1) := by decide +kernel
theorem dX6_linesPut_95 : decode cX6_linesPut 95 = .ok (.iload_n 3, 1) := by decide +kernel
theorem dX6_linesPut_96 : decode cX6_linesPut 96 = .ok (.aload_n 0, 1) := by decide +kernel
theorem dX6_linesPut_97 : decode cX6_linesPut 97 = .ok (.getfield 40, 3) := by decide +kernel
theorem dX6_linesPut_100 : decode cX6_linesPut 100 = .ok (.if_icmp .ge 39, 3) := by decide +kernel
theorem dX6_linesPut_103 : decode cX6_linesPut 103 = .ok (.aload_n 0, 1) := by decide +kernel
theorem dX6_linesPut_104 : decode cX6_linesPut 104 = .ok (.getfield 37, 3) := by decide +kernel
theorem dX6_linesPut_107 : decode cX6_linesPut 107 = .ok (.iload_n 3, 1) := by decide +kernel
theorem dX6_linesPut_108 : decode cX6_linesPut 108 = .ok (.dup2, 1) := by decide +kernel
theorem dX6_linesPut_109 : decode cX6_linesPut 109 = .ok (.iaload, 1) := by decide +kernel
theorem dX6_linesPut_110 : decode cX6_linesPut 110 = .ok (.aload_n 0, 1) := by decide +kernel
theorem dX6_linesPut_111 : decode cX6_linesPut 111 = .ok (.getfield 37, 3) := by decide +kernel
theorem dX6_linesPut_114 : decode cX6_linesPut 114 = .ok (.iload_n 3, 1) := by decide +kernel
theorem dX6_linesPut_115 : decode cX6_linesPut 115 = .ok (.iaload, 1) := by decide +kernel
theorem dX6_linesPut_116 : decode cX6_linesPut 116 = .ok (.iload_n 1, 1) := by decide +kernel
theorem dX6_linesPut_117 : decode cX6_linesPut 117 = .ok (.bipush 100, 2) := by decide +kernel
theorem dX6_linesPut_119 : decode cX6_linesPut 119 = .ok (.imul, 1) := by decide +kernel
theorem dX6_linesPut_120 : decode cX6_linesPut 120 = .ok (.if_icmp .lt 10, 3) := by decide +kernel
theorem dX6_linesPut_123 : decode cX6_linesPut 123 = .ok (.iload_n 2, 1) := by decide +kernel
theorem dX6_linesPut_124 : decode cX6_linesPut 124 = .ok (.bipush 100, 2) := by decide +kernel
theorem dX6_linesPut_126 : decode cX6_linesPut 126 = .ok (.imul, 1) := by decide +kernel
theorem dX6_linesPut_127 : decode cX6_linesPut 127 = .ok (.goto 4, 3) := by decide +kernel
theorem dX6_linesPut_130 : decode cX6_linesPut 130 = .ok (.iconst 0, 1) := by decide +kernel
theorem dX6_linesPut_131 : decode cX6_linesPut 131 = .ok (.iadd, 1) := by decide +kernel
theorem dX6_linesPut_132 : decode cX6_linesPut 132 = .ok (.iastore, 1) := by decide +kernel
theorem dX6_linesPut_133 : decode cX6_linesPut 133 = .ok (.iinc 3 1, 3) := by decide +kernel
theorem dX6_linesPut_136 : decode cX6_linesPut 136 = .ok (.goto (-41), 3) := by decide +kernel
theorem dX6_linesPut_139 : decode cX6_linesPut 139 = .ok (.aload_n 0, 1) := by decide +kernel
theorem dX6_linesPut_140 : decode cX6_linesPut 140 = .ok (.dup, 1) := by decide +kernel
theorem dX6_linesPut_141 : decode cX6_linesPut 141 = .ok (.getfield 43, 3) := by decide +kernel
theorem dX6_linesPut_144 : decode cX6_linesPut 144 = .ok (.aload_n 0, 1) := by decide +kernel
theorem dX6_linesPut_145 : decode cX6_linesPut 145 = .ok (.getfield 43, 3) := by decide +kernel
theorem dX6_linesPut_148 : decode cX6_linesPut 148 = .ok (.iload_n 1, 1) := by decide +kernel
theorem dX6_linesPut_149 : decode cX6_linesPut 149 = .ok (.bipush 100, 2) := by decide +kernel
theorem dX6_linesPut_151 : decode cX6_linesPut 151 = .ok (.imul, 1) := by decide +kernel
theorem dX6_linesPut_152 : decode cX6_linesPut 152 = .ok (.if_icmp .lt 10, 3) := by decide +kernel
theorem dX6_linesPut_155 : decode cX6_linesPut 155 = .ok (.iload_n 2, 1) := by decide +kernel
theorem dX6_linesPut_156 : decode cX6_linesPut 156 = .ok (.bipush 100, 2) := by decide +kernel
theorem dX6_linesPut_158 : decode cX6_linesPut 158 = .ok (.imul, 1) := by decide +kernel
theorem dX6_linesPut_159 : decode cX6_linesPut 159 = .ok (.goto 4, 3) := by decide +kernel
theorem dX6_linesPut_162 : decode cX6_linesPut 162 = .ok (.iconst 0, 1) := by decide +kernel
theorem dX6_linesPut_163 : decode cX6_linesPut 163 = .ok (.iadd, 1) := by decide +kernel
theorem dX6_linesPut_164 : decode cX6_linesPut 164 = .ok (.putfield 43, 3) := by decide +kernel
theorem dX6_linesPut_167 : decode cX6_linesPut 167 = .ok (.iconst 0, 1) := by decide +kernel
theorem dX6_linesPut_168 : decode cX6_linesPut 168 = .ok (.istore_n 3, 1) := by decide +kernel
theorem dX6_linesPut_169 : decode cX6_linesPut 169 = .ok (.iload_n 3, 1) := by decide +kernel
theorem dX6_linesPut_170 : decode cX6_linesPut 170 = .ok (.aload_n 0, 1) := by decide +kernel
theorem dX6_linesPut_171 : decode cX6_linesPut 171 = .ok (.getfield 59, 3) := by decide +kernel
theorem dX6_linesPut_174 : decode cX6_linesPut 174 = .ok (.if_icmp .ge 57, 3) := by decide +kernel
theorem dX6_linesPut_177 : decode cX6_linesPut 177 = .ok (.aload_n 0, 1) := by decide +kernel
theorem dX6_linesPut_178 : decode cX6_linesPut 178 = .ok (.getfield 49, 3) := by decide +kernel
theorem dX6_linesPut_181 : decode cX6_linesPut 181 = .ok (.iload_n 3, 1) := by decide +kernel
theorem dX6_linesPut_182 : decode cX6_linesPut 182 = .ok (.dup2, 1) := by decide +kernel
theorem dX6_linesPut_183 : decode cX6_linesPut 183 = .ok (.iaload, 1) := by decide +kernel
theorem dX6_linesPut_184 : decode cX6_linesPut 184 = .ok (.aload_n 0, 1) := by decide +kernel
theorem dX6_linesPut_185 : decode cX6_linesPut 185 = .ok (.getfield 49, 3) := by decide +kernel
theorem dX6_linesPut_188 : decode cX6_linesPut 188 = .ok (.iload_n 3, 1) := by decide +kernel
theorem dX6_linesPut_189 : decode cX6_linesPut 189 = .ok (.iaload, 1) := by decide +kernel
theorem dX6_linesPut_190 : decode cX6_linesPut 190 = .ok (.iload_n 1, 1) := by decide +kernel
theorem dX6_linesPut_191 : decode cX6_linesPut 191 = .ok (.if_icmp .lt 7, 3) := by decide +kernel
theorem dX6_linesPut_194 : decode cX6_linesPut 194 = .ok (.iload_n 2, 1) := by decide +kernel
theorem dX6_linesPut_195 : decode cX6_linesPut 195 = .ok (.goto 4, 3) := by decide +kernel
theorem dX6_linesPut_198 : decode cX6_linesPut 198 = .ok (.iconst 0, 1) := by decide +kernel
theorem dX6_linesPut_199 : decode cX6_linesPut 199 = .ok (.iadd, 1) := by decide +kernel
theorem dX6_linesPut_200 : decode cX6_linesPut 200 = .ok (.iastore, 1) := by decide +kernel
theorem dX6_linesPut_201 : decode cX6_linesPut 201 = .ok (.aload_n 0, 1) := by decide +kernel
theorem dX6_linesPut_202 : decode cX6_linesPut 202 = .ok (.getfield 52, 3) := by decide +kernel
theorem dX6_linesPut_205 : decode cX6_linesPut 205 = .ok (.iload_n 3, 1) := by decide +kernel
theorem dX6_linesPut_206 : decode cX6_linesPut 206 = .ok (.dup2, 1) := by decide +kernel
theorem dX6_linesPut_207 : decode cX6_linesPut 207 = .ok (.iaload, 1) := by decide +kernel
theorem dX6_linesPut_208 : decode cX6_linesPut 208 = .ok (.aload_n 0, 1) := by decide +kernel
theorem dX6_linesPut_209 : decode cX6_linesPut 209 = .ok (.getfield 52, 3) := by decide +kernel
theorem dX6_linesPut_212 : decode cX6_linesPut 212 = .ok (.iload_n 3, 1) := by decide +kernel
theorem dX6_linesPut_213 : decode cX6_linesPut 213 = .ok (.iaload, 1) := by decide +kernel
theorem dX6_linesPut_214 : decode cX6_linesPut 214 = .ok (.iload_n 1, 1) := by decide +kernel
theorem dX6_linesPut_215 : decode cX6_linesPut 215 = .ok (.if_icmp .lt 7, 3) := by decide +kernel
theorem dX6_linesPut_218 : decode cX6_linesPut 218 = .ok (.iload_n 2, 1) := by decide +kernel
theorem dX6_linesPut_219 : decode cX6_linesPut 219 = .ok (.goto 4, 3) := by decide +kernel
theorem dX6_linesPut_222 : decode cX6_linesPut 222 = .ok (.iconst 0, 1) := by decide +kernel
theorem dX6_linesPut_223 : decode cX6_linesPut 223 = .ok (.iadd, 1) := by decide +kernel
theorem dX6_linesPut_224 : decode cX6_linesPut 224 = .ok (.iastore, 1) := by decide +kernel
theorem dX6_linesPut_225 : decode cX6_linesPut 225 = .ok (.iinc 3 1, 3) := by decide +kernel
theorem dX6_linesPut_228 : decode cX6_linesPut 228 = .ok (.goto (-59), 3) := by decide +kernel
theorem dX6_linesPut_231 : decode cX6_linesPut 231 = .ok (.return_, 1) := by decide +kernel
theorem dX6_linesGone_0 : decode cX6_linesGone 0 = .ok (.iload_n 1, 1) := by decide +kernel
theorem dX6_linesGone_1 : decode cX6_linesGone 1 = .ok (.bipush 100, 2) := by decide +kernel
theorem dX6_linesGone_3 : decode cX6_linesGone 3 = .ok (.imul, 1) := by decide +kernel
theorem dX6_linesGone_4 : decode cX6_linesGone 4 = .ok (.istore 4, 2) := by decide +kernel
theorem dX6_linesGone_6 : decode cX6_linesGone 6 = .ok (.iload_n 1, 1) := by decide +kernel
theorem dX6_linesGone_7 : decode cX6_linesGone 7 = .ok (.iload_n 2, 1) := by decide +kernel
theorem dX6_linesGone_8 : decode cX6_linesGone 8 = .ok (.iadd, 1) := by decide +kernel
theorem dX6_linesGone_9 : decode cX6_linesGone 9 = .ok (.bipush 100, 2) := by decide +kernel
theorem dX6_linesGone_11 : decode cX6_linesGone 11 = .ok (.imul, 1) := by decide +kernel
theorem dX6_linesGone_12 : decode cX6_linesGone 12 = .ok (.istore 5, 2) := by decide +kernel
theorem dX6_linesGone_14 : decode cX6_linesGone 14 = .ok (.iconst 0, 1) := by decide +kernel
theorem dX6_linesGone_15 : decode cX6_linesGone 15 = .ok (.istore 6, 2) := by decide +kernel
theorem dX6_linesGone_17 : decode cX6_linesGone 17 = .ok (.iload 6, 2) := by decide +kernel
theorem dX6_linesGone_19 : decode cX6_linesGone 19 = .ok (.aload_n 0, 1) := by decide +kernel
theorem dX6_linesGone_20 : decode cX6_linesGone 20 = .ok (.getfield 24, 3) := by decide +kernel
theorem dX6_linesGone_23 : decode cX6_linesGone 23 = .ok (.arraylength, 1) := by decide +kernel
theorem dX6_linesGone_24 : decode cX6_linesGone 24 = .ok (.if_icmp .ge 66, 3) := by decide +kernel
theorem dX6_linesGone_27 : decode cX6_linesGone 27 = .ok (.aload_n 0, 1) := by decide +kernel
theorem dX6_linesGone_28 : decode cX6_linesGone 28 = .ok (.getfield 24, 3) := by decide +kernel
theorem dX6_linesGone_31 : decode cX6_linesGone 31 = .ok (.iload 6, 2) := by decide +kernel
theorem dX6_linesGone_33 : decode cX6_linesGone 33 = .ok (.aload_n 0, 1) := by decide +kernel
theorem dX6_linesGone_34 : decode cX6_linesGone 34 = .ok (.getfield 24, 3) := by decide +kernel
theorem dX6_linesGone_37 : decode cX6_linesGone 37 = .ok (.iload 6, 2) := by decide +kernel
theorem dX6_linesGone_39 : decode cX6_linesGone 39 = .ok (.iaload, 1) := by decide +kernel
theorem dX6_linesGone_40 : decode cX6_linesGone 40 = .ok (.iload 4, 2) := by decide +kernel
theorem dX6_linesGone_42 : decode cX6_linesGone 42 = .ok (.if_icmp .ge 13, 3) := by decide +kernel
theorem dX6_linesGone_45 : decode cX6_linesGone 45 = .ok (.aload_n 0, 1) := by decide +kernel
theorem dX6_linesGone_46 : decode cX6_linesGone 46 = .ok (.getfield 24, 3) := by decide +kernel
theorem dX6_linesGone_49 : decode cX6_linesGone 49 = .ok (.iload 6, 2) := by decide +kernel
theorem dX6_linesGone_51 : decode cX6_linesGone 51 = .ok (.iaload, 1) := by decide +kernel
theorem dX6_linesGone_52 : decode cX6_linesGone 52 = .ok (.goto 31, 3) := by decide +kernel
theorem dX6_linesGone_55 : decode cX6_linesGone 55 = .ok (.aload_n 0, 1) := by decide +kernel
theorem dX6_linesGone_56 : decode cX6_linesGone 56 = .ok (.getfield 24, 3) := by decide +kernel
theorem dX6_linesGone_59 : decode cX6_linesGone 59 = .ok (.iload 6, 2) := by decide +kernel
theorem dX6_linesGone_61 : decode cX6_linesGone 61 = .ok (.iaload, 1) := by decide +kernel
theorem dX6_linesGone_62 : decode cX6_linesGone 62 = .ok (.iload 5, 2) := by decide +kernel
theorem dX6_linesGone_64 : decode cX6_linesGone 64 = .ok (.if_icmp .ge 7, 3) := by decide +kernel
theorem dX6_linesGone_67 : decode cX6_linesGone 67 = .ok (.iconst (-1), 1) := by decide +kernel
theorem dX6_linesGone_68 : decode cX6_linesGone 68 = .ok (.goto 15, 3) := by decide +kernel
theorem dX6_linesGone_71 : decode cX6_linesGone 71 = .ok (.aload_n 0, 1) := by decide +kernel
theorem dX6_linesGone_72 : decode cX6_linesGone 72 = .ok (.getfield 24, 3) := by decide +kernel
theorem dX6_linesGone_75 : decode cX6_linesGone 75 = .ok (.iload 6, 2) := by decide +kernel
theorem dX6_linesGone_77 : decode cX6_linesGone 77 = .ok (.iaload, 1) := by decide +kernel
theorem dX6_linesGone_78 : decode cX6_linesGone 78 = .ok (.iload_n 2, 1) := by decide +kernel
theorem dX6_linesGone_79 : decode cX6_linesGone 79 = .ok (.bipush 100, 2) := by decide +kernel
theorem dX6_linesGone_81 : decode cX6_linesGone 81 = .ok (.imul, 1) := by decide +kernel
theorem dX6_linesGone_82 : decode cX6_linesGone 82 = .ok (.isub, 1) := by decide +kernel
theorem dX6_linesGone_83 : decode cX6_linesGone 83 = .ok (.iastore, 1) := by decide +kernel
theorem dX6_linesGone_84 : decode cX6_linesGone 84 = .ok (.iinc 6 1, 3) := by decide +kernel
theorem dX6_linesGone_87 : decode cX6_linesGone 87 = .ok (.goto (-70), 3) := by decide +kernel
theorem dX6_linesGone_90 : decode cX6_linesGone 90 = .ok (.iconst 0, 1) := by decide +kernel
theorem dX6_linesGone_91 : decode cX6_linesGone 91 = .ok (.istore 6, 2) := by decide +kernel
theorem dX6_linesGone_93 : decode cX6_linesGone 93 = .ok (.iconst (-1), 1) := by decide +kernel
theorem dX6_linesGone_94 : decode cX6_linesGone 94 = .ok (.istore 7, 2) := by decide +kernel
theorem dX6_linesGone_96 : decode cX6_linesGone 96 = .ok (.iconst 0, 1) := by decide +kernel
theorem dX6_linesGone_97 : decode cX6_linesGone 97 = .ok (.istore 8, 2) := by decide +kernel
theorem dX6_linesGone_99 : decode cX6_linesGone 99 = .ok (.iload 8, 2) := by decide +kernel
theorem dX6_linesGone_101 : decode cX6_linesGone 101 = .ok (.aload_n 0, 1) := by decide +kernel
theorem dX6_linesGone_102 : decode cX6_linesGone 102 = .ok (.getfield 31, 3) := by decide +kernel
theorem dX6_linesGone_105 : decode cX6_linesGone 105 = .ok (.if_icmp .ge 95, 3) := by decide +kernel
theorem dX6_linesGone_108 : decode cX6_linesGone 108 = .ok (.aload_n 0, 1) := by decide +kernel
theorem dX6_linesGone_109 : decode cX6_linesGone 109 = .ok (.getfield 28, 3) := by decide +kernel
theorem dX6_linesGone_112 : decode cX6_linesGone 112 = .ok (.iload 8, 2) := by decide +kernel
theorem dX6_linesGone_114 : decode cX6_linesGone 114 = .ok (.iaload, 1) := by decide +kernel
theorem dX6_linesGone_115 : decode cX6_linesGone 115 = .ok (.iload 4, 2) := by decide +kernel
theorem dX6_linesGone_117 : decode cX6_linesGone 117 = .ok (.if_icmp .lt 15, 3) := by decide +kernel
theorem dX6_linesGone_120 : decode cX6_linesGone 120 = .ok (.aload_n 0, 1) := by decide +kernel
theorem dX6_linesGone_121 : decode cX6_linesGone 121 = .ok (.getfield 28, 3) := by decide +kernel
theorem dX6_linesGone_124 : decode cX6_linesGone 124 = .ok (.iload 8, 2) := by decide +kernel
theorem dX6_linesGone_126 : decode cX6_linesGone 126 = .ok (.iaload, 1) := by decide +kernel
theorem dX6_linesGone_127 : decode cX6_linesGone 127 = .ok (.iload 5, 2) := by decide +kernel
theorem dX6_linesGone_129 : decode cX6_linesGone 129 = .ok (.if_icmp .lt 65, 3) := by decide +kernel
theorem dX6_linesGone_132 : decode cX6_linesGone 132 = .ok (.iload 8, 2) := by decide +kernel
theorem dX6_linesGone_134 : decode cX6_linesGone 134 = .ok (.aload_n 0, 1) := by decide +kernel
theorem dX6_linesGone_135 : decode cX6_linesGone 135 = .ok (.getfield 34, 3) := by decide +kernel
theorem dX6_linesGone_138 : decode cX6_linesGone 138 = .ok (.if_icmp .ne 8, 3) := by decide +kernel
theorem dX6_linesGone_141 : decode cX6_linesGone 141 = .ok (.iload 6, 2) := by decide +kernel
theorem dX6_linesGone_143 : decode cX6_linesGone 143 = .ok (.goto 5, 3) := by decide +kernel
theorem dX6_linesGone_146 : decode cX6_linesGone 146 = .ok (.iload 7, 2) := by decide +kernel
theorem dX6_linesGone_148 : decode cX6_linesGone 148 = .ok (.istore 7, 2) := by decide +kernel
theorem dX6_linesGone_150 : decode cX6_linesGone 150 = .ok (.aload_n 0, 1) := by decide +kernel
theorem dX6_linesGone_151 : decode cX6_linesGone 151 = .ok (.getfield 28, 3) := by decide +kernel
theorem dX6_linesGone_154 : decode cX6_linesGone 154 = .ok (.iload 6, 2) := by decide +kernel
theorem dX6_linesGone_156 : decode cX6_linesGone 156 = .ok (.aload_n 0, 1) := by decide +kernel
theorem dX6_linesGone_157 : decode cX6_linesGone 157 = .ok (.getfield 28, 3) := by decide +kernel
theorem dX6_linesGone_160 : decode cX6_linesGone 160 = .ok (.iload 8, 2) := by decide +kernel
theorem dX6_linesGone_162 : decode cX6_linesGone 162 = .ok (.iaload, 1) := by decide +kernel
theorem dX6_linesGone_163 : decode cX6_linesGone 163 = .ok (.iload 4, 2) := by decide +kernel
theorem dX6_linesGone_165 : decode cX6_linesGone 165 = .ok (.if_icmp .ge 13, 3) := by decide +kernel
theorem dX6_linesGone_168 : decode cX6_linesGone 168 = .ok (.aload_n 0, 1) := by decide +kernel
theorem dX6_linesGone_169 : decode cX6_linesGone 169 = .ok (.getfield 28, 3) := by decide +kernel
theorem dX6_linesGone_172 : decode cX6_linesGone 172 = .ok (.iload 8, 2) := by decide +kernel
theorem dX6_linesGone_174 : decode cX6_linesGone 174 = .ok (.iaload, 1) := by decide +kernel
theorem dX6_linesGone_175 : decode cX6_linesGone 175 = .ok (.goto 15, 3) := by decide +kernel
theorem dX6_linesGone_178 : decode cX6_linesGone 178 = .ok (.aload_n 0, 1) := by decide +kernel
theorem dX6_linesGone_179 : decode cX6_linesGone 179 = .ok (.getfield 28, 3) := by decide +kernel
theorem dX6_linesGone_182 : decode cX6_linesGone 182 = .ok (.iload 8, 2) := by decide +kernel
theorem dX6_linesGone_184 : decode cX6_linesGone 184 = .ok (.iaload, 1) := by decide +kernel
theorem dX6_linesGone_185 : decode cX6_linesGone 185 = .ok (.iload_n 2, 1) := by decide +kernel
theorem dX6_linesGone_186 : decode cX6_linesGone 186 = .ok (.bipush 100, 2) := by decide +kernel
theorem dX6_linesGone_188 : decode cX6_linesGone 188 = .ok (.imul, 1) := by decide +kernel
theorem dX6_linesGone_189 : decode cX6_linesGone 189 = .ok (.isub, 1) := by decide +kernel
theorem dX6_linesGone_190 : decode cX6_linesGone 190 = .ok (.iastore, 1) := by decide +kernel
theorem dX6_linesGone_191 : decode cX6_linesGone 191 = .ok (.iinc 6 1, 3) := by decide +kernel
theorem dX6_linesGone_194 : decode cX6_linesGone 194 = .ok (.iinc 8 1, 3) := by decide +kernel
theorem dX6_linesGone_197 : decode cX6_linesGone 197 = .ok (.goto (-98), 3) := by decide +kernel
theorem dX6_linesGone_200 : decode cX6_linesGone 200 = .ok (.aload_n 0, 1) := by decide +kernel
theorem dX6_linesGone_201 : decode cX6_linesGone 201 = .ok (.iload 6, 2) := by decide +kernel
theorem dX6_linesGone_203 : decode cX6_linesGone 203 = .ok (.putfield 31, 3) := by decide +kernel
theorem dX6_linesGone_206 : decode cX6_linesGone 206 = .ok (.aload_n 0, 1) := by decide +kernel
theorem dX6_linesGone_207 : decode cX6_linesGone 207 = .ok (.iload 7, 2) := by decide +kernel
theorem dX6_linesGone_209 : decode cX6_linesGone 209 = .ok (.putfield 34, 3) := by decide +kernel
theorem dX6_linesGone_212 : decode cX6_linesGone 212 = .ok (.iconst 0, 1) := by decide +kernel
theorem dX6_linesGone_213 : decode cX6_linesGone 213 = .ok (.istore 8, 2) := by decide +kernel
theorem dX6_linesGone_215 : decode cX6_linesGone 215 = .ok (.iload 8, 2) := by decide +kernel
theorem dX6_linesGone_217 : decode cX6_linesGone 217 = .ok (.aload_n 0, 1) := by decide +kernel
theorem dX6_linesGone_218 : decode cX6_linesGone 218 = .ok (.getfield 40, 3) := by decide +kernel
theorem dX6_linesGone_221 : decode cX6_linesGone 221 = .ok (.if_icmp .ge 66, 3) := by decide +kernel
theorem dX6_linesGone_224 : decode cX6_linesGone 224 = .ok (.aload_n 0, 1) := by decide +kernel
theorem dX6_linesGone_225 : decode cX6_linesGone 225 = .ok (.getfield 37, 3) := by decide +kernel
theorem dX6_linesGone_228 : decode cX6_linesGone 228 = .ok (.iload 8, 2) := by decide +kernel
theorem dX6_linesGone_230 : decode cX6_linesGone 230 = .ok (.aload_n 0, 1) := by decide +kernel
theorem dX6_linesGone_231 : decode cX6_linesGone 231 = .ok (.getfield 37, 3) := by decide +kernel
theorem dX6_linesGone_234 : decode cX6_linesGone 234 = .ok (.iload 8, 2) := by decide +kernel
theorem dX6_linesGone_236 : decode cX6_linesGone 236 = .ok (.iaload, 1) := by decide +kernel
theorem dX6_linesGone_237 : decode cX6_linesGone 237 = .ok (.iload 4, 2) := by decide +kernel
theorem dX6_linesGone_239 : decode cX6_linesGone 239 = .ok (.if_icmp .ge 13, 3) := by decide +kernel
theorem dX6_linesGone_242 : decode cX6_linesGone 242 = .ok (.aload_n 0, 1) := by decide +kernel
theorem dX6_linesGone_243 : decode cX6_linesGone 243 = .ok (.getfield 37, 3) := by decide +kernel
theorem dX6_linesGone_246 : decode cX6_linesGone 246 = .ok (.iload 8, 2) := by decide +kernel
theorem dX6_linesGone_248 : decode cX6_linesGone 248 = .ok (.iaload, 1) := by decide +kernel
theorem dX6_linesGone_249 : decode cX6_linesGone 249 = .ok (.goto 31, 3) := by decide +kernel
theorem dX6_linesGone_252 : decode cX6_linesGone 252 = .ok (.aload_n 0, 1) := by decide +kernel
theorem dX6_linesGone_253 : decode cX6_linesGone 253 = .ok (.getfield 37, 3) := by decide +kernel
theorem dX6_linesGone_256 : decode cX6_linesGone 256 = .ok (.iload 8, 2) := by decide +kernel
theorem dX6_linesGone_258 : decode cX6_linesGone 258 = .ok (.iaload, 1) := by decide +kernel
theorem dX6_linesGone_259 : decode cX6_linesGone 259 = .ok (.iload 5, 2) := by decide +kernel
theorem dX6_linesGone_261 : decode cX6_linesGone 261 = .ok (.if_icmp .ge 7, 3) := by decide +kernel
theorem dX6_linesGone_264 : decode cX6_linesGone 264 = .ok (.iconst (-1), 1) := by decide +kernel
theorem dX6_linesGone_265 : decode cX6_linesGone 265 = .ok (.goto 15, 3) := by decide +kernel
theorem dX6_linesGone_268 : decode cX6_linesGone 268 = .ok (.aload_n 0, 1) := by decide +kernel
theorem dX6_linesGone_269 : decode cX6_linesGone 269 = .ok (.getfield 37, 3) := by decide +kernel
theorem dX6_linesGone_272 : decode cX6_linesGone 272 = .ok (.iload 8, 2) := by decide +kernel
theorem dX6_linesGone_274 : decode cX6_linesGone 274 = .ok (.iaload, 1) := by decide +kernel
theorem dX6_linesGone_275 : decode cX6_linesGone 275 = .ok (.iload_n 2, 1) := by decide +kernel
theorem dX6_linesGone_276 : decode cX6_linesGone 276 = .ok (.bipush 100, 2) := by decide +kernel
theorem dX6_linesGone_278 : decode cX6_linesGone 278 = .ok (.imul, 1) := by decide +kernel
theorem dX6_linesGone_279 : decode cX6_linesGone 279 = .ok (.isub, 1) := by decide +kernel
theorem dX6_linesGone_280 : decode cX6_linesGone 280 = .ok (.iastore, 1) := by decide +kernel
theorem dX6_linesGone_281 : decode cX6_linesGone 281 = .ok (.iinc 8 1, 3) := by decide +kernel
theorem dX6_linesGone_284 : decode cX6_linesGone 284 = .ok (.goto (-69), 3) := by decide +kernel
theorem dX6_linesGone_287 : decode cX6_linesGone 287 = .ok (.aload_n 0, 1) := by decide +kernel
theorem dX6_linesGone_288 : decode cX6_linesGone 288 = .ok (.getfield 43, 3) := by decide +kernel
theorem dX6_linesGone_291 : decode cX6_linesGone 291 = .ok (.iload 4, 2) := by decide +kernel
theorem dX6_linesGone_293 : decode cX6_linesGone 293 = .ok (.if_icmp .lt 46, 3) := by decide +kernel
theorem dX6_linesGone_296 : decode cX6_linesGone 296 = .ok (.aload_n 0, 1) := by decide +kernel
theorem dX6_linesGone_297 : decode cX6_linesGone 297 = .ok (.aload_n 0, 1) := by decide +kernel
theorem dX6_linesGone_298 : decode cX6_linesGone 298 = .ok (.getfield 43, 3) := by decide +kernel
theorem dX6_linesGone_301 : decode cX6_linesGone 301 = .ok (.iload 5, 2) := by decide +kernel
theorem dX6_linesGone_303 : decode cX6_linesGone 303 = .ok (.if_icmp .ge 24, 3) := by decide +kernel
theorem dX6_linesGone_306 : decode cX6_linesGone 306 = .ok (.iload_n 1, 1) := by decide +kernel
theorem dX6_linesGone_307 : decode cX6_linesGone 307 = .ok (.iload_n 3, 1) := by decide +kernel
theorem dX6_linesGone_308 : decode cX6_linesGone 308 = .ok (.iconst 1, 1) := by decide +kernel
theorem dX6_linesGone_309 : decode cX6_linesGone 309 = .ok (.isub, 1) := by decide +kernel
theorem dX6_linesGone_310 : decode cX6_linesGone 310 = .ok (.invokestatic 73, 3) := by decide +kernel
theorem dX6_linesGone_313 : decode cX6_linesGone 313 = .ok (.bipush 100, 2) := by decide +kernel
theorem dX6_linesGone_315 : decode cX6_linesGone 315 = .ok (.imul, 1) := by decide +kernel
theorem dX6_linesGone_316 : decode cX6_linesGone 316 = .ok (.aload_n 0, 1) := by decide +kernel
theorem dX6_linesGone_317 : decode cX6_linesGone 317 = .ok (.getfield 43, 3) := by decide +kernel
theorem dX6_linesGone_320 : decode cX6_linesGone 320 = .ok (.bipush 100, 2) := by decide +kernel
theorem dX6_linesGone_322 : decode cX6_linesGone 322 = .ok (.irem, 1) := by decide +kernel
theorem dX6_linesGone_323 : decode cX6_linesGone 323 = .ok (.iadd, 1) := by decide +kernel
theorem dX6_linesGone_324 : decode cX6_linesGone 324 = .ok (.goto 12, 3) := by decide +kernel
theorem dX6_linesGone_327 : decode cX6_linesGone 327 = .ok (.aload_n 0, 1) := by decide +kernel
theorem dX6_linesGone_328 : decode cX6_linesGone 328 = .ok (.getfield 43, 3) := by decide +kernel
theorem dX6_linesGone_331 : decode cX6_linesGone 331 = .ok (.iload_n 2, 1) := by decide +kernel
theorem dX6_linesGone_332 : decode cX6_linesGone 332 = .ok (.bipush 100, 2) := by decide +kernel
theorem dX6_linesGone_334 : decode cX6_linesGone 334 = .ok (.imul, 1) := by decide +kernel
theorem dX6_linesGone_335 : decode cX6_linesGone 335 = .ok (.isub, 1) := by decide +kernel
theorem dX6_linesGone_336 : decode cX6_linesGone 336 = .ok (.putfield 43, 3) := by decide +kernel
theorem dX6_linesGone_339 : decode cX6_linesGone 339 = .ok (.iconst 0, 1) := by decide +kernel
theorem dX6_linesGone_340 : decode cX6_linesGone 340 = .ok (.istore 6, 2) := by decide +kernel
theorem dX6_linesGone_342 : decode cX6_linesGone 342 = .ok (.iconst 0, 1) := by decide +kernel
theorem dX6_linesGone_343 : decode cX6_linesGone 343 = .ok (.istore 8, 2) := by decide +kernel
theorem dX6_linesGone_345 : decode cX6_linesGone 345 = .ok (.iload 8, 2) := by decide +kernel
theorem dX6_linesGone_347 : decode cX6_linesGone 347 = .ok (.aload_n 0, 1) := by decide +kernel
theorem dX6_linesGone_348 : decode cX6_linesGone 348 = .ok (.getfield 59, 3) := by decide +kernel
theorem dX6_linesGone_351 : decode cX6_linesGone 351 = .ok (.if_icmp .ge 125, 3) := by decide +kernel
theorem dX6_linesGone_354 : decode cX6_linesGone 354 = .ok (.aload_n 0, 1) := by decide +kernel
theorem dX6_linesGone_355 : decode cX6_linesGone 355 = .ok (.getfield 49, 3) := by decide +kernel
theorem dX6_linesGone_358 : decode cX6_linesGone 358 = .ok (.iload 8, 2) := by decide +kernel
theorem dX6_linesGone_360 : decode cX6_linesGone 360 = .ok (.iaload, 1) := by decide +kernel
theorem dX6_linesGone_361 : decode cX6_linesGone 361 = .ok (.iload_n 1, 1) := by decide +kernel
theorem dX6_linesGone_362 : decode cX6_linesGone 362 = .ok (.if_icmp .ge 13, 3) := by decide +kernel
theorem dX6_linesGone_365 : decode cX6_linesGone 365 = .ok (.aload_n 0, 1) := by decide +kernel
theorem dX6_linesGone_366 : decode cX6_linesGone 366 = .ok (.getfield 49, 3) := by decide +kernel
theorem dX6_linesGone_369 : decode cX6_linesGone 369 = .ok (.iload 8, 2) := by decide +kernel
theorem dX6_linesGone_371 : decode cX6_linesGone 371 = .ok (.iaload, 1) := by decide +kernel
theorem dX6_linesGone_372 : decode cX6_linesGone 372 = .ok (.goto 16, 3) := by decide +kernel
theorem dX6_linesGone_375 : decode cX6_linesGone 375 = .ok (.iload_n 1, 1) := by decide +kernel
theorem dX6_linesGone_376 : decode cX6_linesGone 376 = .ok (.aload_n 0, 1) := by decide +kernel
theorem dX6_linesGone_377 : decode cX6_linesGone 377 = .ok (.getfield 49, 3) := by decide +kernel
theorem dX6_linesGone_380 : decode cX6_linesGone 380 = .ok (.iload 8, 2) := by decide +kernel
theorem dX6_linesGone_382 : decode cX6_linesGone 382 = .ok (.iaload, 1) := by decide +kernel
theorem dX6_linesGone_383 : decode cX6_linesGone 383 = .ok (.iload_n 2, 1) := by decide +kernel
theorem dX6_linesGone_384 : decode cX6_linesGone 384 = .ok (.isub, 1) := by decide +kernel
theorem dX6_linesGone_385 : decode cX6_linesGone 385 = .ok (.invokestatic 79, 3) := by decide +kernel
theorem dX6_linesGone_388 : decode cX6_linesGone 388 = .ok (.istore 9, 2) := by decide +kernel
theorem dX6_linesGone_390 : decode cX6_linesGone 390 = .ok (.aload_n 0, 1) := by decide +kernel
theorem dX6_linesGone_391 : decode cX6_linesGone 391 = .ok (.getfield 52, 3) := by decide +kernel
theorem dX6_linesGone_394 : decode cX6_linesGone 394 = .ok (.iload 8, 2) := by decide +kernel
theorem dX6_linesGone_396 : decode cX6_linesGone 396 = .ok (.iaload, 1) := by decide +kernel
theorem dX6_linesGone_397 : decode cX6_linesGone 397 = .ok (.iload_n 1, 1) := by decide +kernel
theorem dX6_linesGone_398 : decode cX6_linesGone 398 = .ok (.if_icmp .ge 13, 3) := by decide +kernel
theorem dX6_linesGone_401 : decode cX6_linesGone 401 = .ok (.aload_n 0, 1) := by decide +kernel
theorem dX6_linesGone_402 : decode cX6_linesGone 402 = .ok (.getfield 52, 3) := by decide +kernel
theorem dX6_linesGone_405 : decode cX6_linesGone 405 = .ok (.iload 8, 2) := by decide +kernel
theorem dX6_linesGone_407 : decode cX6_linesGone 407 = .ok (.iaload, 1) := by decide +kernel
theorem dX6_linesGone_408 : decode cX6_linesGone 408 = .ok (.goto 18, 3) := by decide +kernel
theorem dX6_linesGone_411 : decode cX6_linesGone 411 = .ok (.iload_n 1, 1) := by decide +kernel
theorem dX6_linesGone_412 : decode cX6_linesGone 412 = .ok (.iconst 1, 1) := by decide +kernel
theorem dX6_linesGone_413 : decode cX6_linesGone 413 = .ok (.isub, 1) := by decide +kernel
theorem dX6_linesGone_414 : decode cX6_linesGone 414 = .ok (.aload_n 0, 1) := by decide +kernel
theorem dX6_linesGone_415 : decode cX6_linesGone 415 = .ok (.getfield 52, 3) := by decide +kernel
theorem dX6_linesGone_418 : decode cX6_linesGone 418 = .ok (.iload 8, 2) := by decide +kernel
theorem dX6_linesGone_420 : decode cX6_linesGone 420 = .ok (.iaload, 1) := by decide +kernel
theorem dX6_linesGone_421 : decode cX6_linesGone 421 = .ok (.iload_n 2, 1) := by decide +kernel
theorem dX6_linesGone_422 : decode cX6_linesGone 422 = .ok (.isub, 1) := by decide +kernel
theorem dX6_linesGone_423 : decode cX6_linesGone 423 = .ok (.invokestatic 79, 3) := by decide +kernel
theorem dX6_linesGone_426 : decode cX6_linesGone 426 = .ok (.istore 10, 2) := by decide +kernel
theorem dX6_linesGone_428 : decode cX6_linesGone 428 = .ok (.iload 9, 2) := by decide +kernel
theorem dX6_linesGone_430 : decode cX6_linesGone 430 = .ok (.iload 10, 2) := by decide +kernel
theorem dX6_linesGone_432 : decode cX6_linesGone 432 = .ok (.if_icmp .ge 38, 3) := by decide +kernel
theorem dX6_linesGone_435 : decode cX6_linesGone 435 = .ok (.aload_n 0, 1) := by decide +kernel
theorem dX6_linesGone_436 : decode cX6_linesGone 436 = .ok (.getfield 49, 3) := by decide +kernel
theorem dX6_linesGone_439 : decode cX6_linesGone 439 = .ok (.iload 6, 2) := by decide +kernel
theorem dX6_linesGone_441 : decode cX6_linesGone 441 = .ok (.iload 9, 2) := by decide +kernel
theorem dX6_linesGone_443 : decode cX6_linesGone 443 = .ok (.iastore, 1) := by decide +kernel
theorem dX6_linesGone_444 : decode cX6_linesGone 444 = .ok (.aload_n 0, 1) := by decide +kernel
theorem dX6_linesGone_445 : decode cX6_linesGone 445 = .ok (.getfield 52, 3) := by decide +kernel
theorem dX6_linesGone_448 : decode cX6_linesGone 448 = .ok (.iload 6, 2) := by decide +kernel
theorem dX6_linesGone_450 : decode cX6_linesGone 450 = .ok (.iload 10, 2) := by decide +kernel
theorem dX6_linesGone_452 : decode cX6_linesGone 452 = .ok (.iastore, 1) := by decide +kernel
theorem dX6_linesGone_453 : decode cX6_linesGone 453 = .ok (.aload_n 0, 1) := by decide +kernel
theorem dX6_linesGone_454 : decode cX6_linesGone 454 = .ok (.getfield 55, 3) := by decide +kernel
theorem dX6_linesGone_457 : decode cX6_linesGone 457 = .ok (.iload 6, 2) := by decide +kernel
theorem dX6_linesGone_459 : decode cX6_linesGone 459 = .ok (.aload_n 0, 1) := by decide +kernel
theorem dX6_linesGone_460 : decode cX6_linesGone 460 = .ok (.getfield 55, 3) := by decide +kernel
theorem dX6_linesGone_463 : decode cX6_linesGone 463 = .ok (.iload 8, 2) := by decide +kernel
theorem dX6_linesGone_465 : decode cX6_linesGone 465 = .ok (.baload, 1) := by decide +kernel
theorem dX6_linesGone_466 : decode cX6_linesGone 466 = .ok (.bastore, 1) := by decide +kernel
theorem dX6_linesGone_467 : decode cX6_linesGone 467 = .ok (.iinc 6 1, 3) := by decide +kernel
theorem dX6_linesGone_470 : decode cX6_linesGone 470 = .ok (.iinc 8 1, 3) := by decide +kernel
theorem dX6_linesGone_473 : decode cX6_linesGone 473 = .ok (.goto (-128), 3) := by decide +kernel
theorem dX6_linesGone_476 : decode cX6_linesGone 476 = .ok (.aload_n 0, 1) := by decide +kernel
theorem dX6_linesGone_477 : decode cX6_linesGone 477 = .ok (.iload 6, 2) := by decide +kernel
theorem dX6_linesGone_479 : decode cX6_linesGone 479 = .ok (.putfield 59, 3) := by decide +kernel
theorem dX6_linesGone_482 : decode cX6_linesGone 482 = .ok (.return_, 1) := by decide +kernel
theorem dX6_cutTo_0 : decode cX6_cutTo 0 = .ok (.iload_n 1, 1) := by decide +kernel
theorem dX6_cutTo_1 : decode cX6_cutTo 1 = .ok (.bipush 100, 2) := by decide +kernel
theorem dX6_cutTo_3 : decode cX6_cutTo 3 = .ok (.imul, 1) := by decide +kernel
theorem dX6_cutTo_4 : decode cX6_cutTo 4 = .ok (.istore_n 2, 1) := by decide +kernel
theorem dX6_cutTo_5 : decode cX6_cutTo 5 = .ok (.iconst 0, 1) := by decide +kernel
theorem dX6_cutTo_6 : decode cX6_cutTo 6 = .ok (.istore_n 3, 1) := by decide +kernel
theorem dX6_cutTo_7 : decode cX6_cutTo 7 = .ok (.iload_n 3, 1) := by decide +kernel
theorem dX6_cutTo_8 : decode cX6_cutTo 8 = .ok (.aload_n 0, 1) := by decide +kernel
theorem dX6_cutTo_9 : decode cX6_cutTo 9 = .ok (.getfield 24, 3) := by decide +kernel
theorem dX6_cutTo_12 : decode cX6_cutTo 12 = .ok (.arraylength, 1) := by decide +kernel
theorem dX6_cutTo_13 : decode cX6_cutTo 13 = .ok (.if_icmp .ge 35, 3) := by decide +kernel
theorem dX6_cutTo_16 : decode cX6_cutTo 16 = .ok (.aload_n 0, 1) := by decide +kernel
theorem dX6_cutTo_17 : decode cX6_cutTo 17 = .ok (.getfield 24, 3) := by decide +kernel
theorem dX6_cutTo_20 : decode cX6_cutTo 20 = .ok (.iload_n 3, 1) := by decide +kernel
theorem dX6_cutTo_21 : decode cX6_cutTo 21 = .ok (.aload_n 0, 1) := by decide +kernel
theorem dX6_cutTo_22 : decode cX6_cutTo 22 = .ok (.getfield 24, 3) := by decide +kernel
theorem dX6_cutTo_25 : decode cX6_cutTo 25 = .ok (.iload_n 3, 1) := by decide +kernel
theorem dX6_cutTo_26 : decode cX6_cutTo 26 = .ok (.iaload, 1) := by decide +kernel
theorem dX6_cutTo_27 : decode cX6_cutTo 27 = .ok (.iload_n 2, 1) := by decide +kernel
theorem dX6_cutTo_28 : decode cX6_cutTo 28 = .ok (.if_icmp .ge 12, 3) := by decide +kernel
theorem dX6_cutTo_31 : decode cX6_cutTo 31 = .ok (.aload_n 0, 1) := by decide +kernel
theorem dX6_cutTo_32 : decode cX6_cutTo 32 = .ok (.getfield 24, 3) := by decide +kernel
theorem dX6_cutTo_35 : decode cX6_cutTo 35 = .ok (.iload_n 3, 1) := by decide +kernel
theorem dX6_cutTo_36 : decode cX6_cutTo 36 = .ok (.iaload, 1) := by decide +kernel
theorem dX6_cutTo_37 : decode cX6_cutTo 37 = .ok (.goto 4, 3) := by decide +kernel
theorem dX6_cutTo_40 : decode cX6_cutTo 40 = .ok (.iconst (-1), 1) := by decide +kernel
theorem dX6_cutTo_41 : decode cX6_cutTo 41 = .ok (.iastore, 1) := by decide +kernel
theorem dX6_cutTo_42 : decode cX6_cutTo 42 = .ok (.iinc 3 1, 3) := by decide +kernel
theorem dX6_cutTo_45 : decode cX6_cutTo 45 = .ok (.goto (-38), 3) := by decide +kernel
theorem dX6_cutTo_48 : decode cX6_cutTo 48 = .ok (.iconst 0, 1) := by decide +kernel
theorem dX6_cutTo_49 : decode cX6_cutTo 49 = .ok (.istore_n 3, 1) := by decide +kernel
theorem dX6_cutTo_50 : decode cX6_cutTo 50 = .ok (.iconst (-1), 1) := by decide +kernel
theorem dX6_cutTo_51 : decode cX6_cutTo 51 = .ok (.istore 4, 2) := by decide +kernel
theorem dX6_cutTo_53 : decode cX6_cutTo 53 = .ok (.iconst 0, 1) := by decide +kernel
theorem dX6_cutTo_54 : decode cX6_cutTo 54 = .ok (.istore 5, 2) := by decide +kernel
theorem dX6_cutTo_56 : decode cX6_cutTo 56 = .ok (.iload 5, 2) := by decide +kernel
theorem dX6_cutTo_58 : decode cX6_cutTo 58 = .ok (.aload_n 0, 1) := by decide +kernel
theorem dX6_cutTo_59 : decode cX6_cutTo 59 = .ok (.getfield 31, 3) := by decide +kernel
theorem dX6_cutTo_62 : decode cX6_cutTo 62 = .ok (.if_icmp .ge 53, 3) := by decide +kernel
theorem dX6_cutTo_65 : decode cX6_cutTo 65 = .ok (.aload_n 0, 1) := by decide +kernel
theorem dX6_cutTo_66 : decode cX6_cutTo 66 = .ok (.getfield 28, 3) := by decide +kernel
theorem dX6_cutTo_69 : decode cX6_cutTo 69 = .ok (.iload 5, 2) := by decide +kernel
theorem dX6_cutTo_71 : decode cX6_cutTo 71 = .ok (.iaload, 1) := by decide +kernel
theorem dX6_cutTo_72 : decode cX6_cutTo 72 = .ok (.iload_n 2, 1) := by decide +kernel
theorem dX6_cutTo_73 : decode cX6_cutTo 73 = .ok (.if_icmp .ge 36, 3) := by decide +kernel
theorem dX6_cutTo_76 : decode cX6_cutTo 76 = .ok (.iload 5, 2) := by decide +kernel
theorem dX6_cutTo_78 : decode cX6_cutTo 78 = .ok (.aload_n 0, 1) := by decide +kernel
theorem dX6_cutTo_79 : decode cX6_cutTo 79 = .ok (.getfield 34, 3) := by decide +kernel
theorem dX6_cutTo_82 : decode cX6_cutTo 82 = .ok (.if_icmp .ne 7, 3) := by decide +kernel
theorem dX6_cutTo_85 : decode cX6_cutTo 85 = .ok (.iload_n 3, 1) := by decide +kernel
theorem dX6_cutTo_86 : decode cX6_cutTo 86 = .ok (.goto 5, 3) := by decide +kernel
theorem dX6_cutTo_89 : decode cX6_cutTo 89 = .ok (.iload 4, 2) := by decide +kernel
theorem dX6_cutTo_91 : decode cX6_cutTo 91 = .ok (.istore 4, 2) := by decide +kernel
theorem dX6_cutTo_93 : decode cX6_cutTo 93 = .ok (.aload_n 0, 1) := by decide +kernel
theorem dX6_cutTo_94 : decode cX6_cutTo 94 = .ok (.getfield 28, 3) := by decide +kernel
theorem dX6_cutTo_97 : decode cX6_cutTo 97 = .ok (.iload_n 3, 1) := by decide +kernel
theorem dX6_cutTo_98 : decode cX6_cutTo 98 = .ok (.aload_n 0, 1) := by decide +kernel
theorem dX6_cutTo_99 : decode cX6_cutTo 99 = .ok (.getfield 28, 3) := by decide +kernel
theorem dX6_cutTo_102 : decode cX6_cutTo 102 = .ok (.iload 5, 2) := by decide +kernel
theorem dX6_cutTo_104 : decode cX6_cutTo 104 = .ok (.iaload, 1) := by decide +kernel
theorem dX6_cutTo_105 : decode cX6_cutTo 105 = .ok (.iastore, 1) := by decide +kernel
theorem dX6_cutTo_106 : decode cX6_cutTo 106 = .ok (.iinc 3 1, 3) := by decide +kernel
theorem dX6_cutTo_109 : decode cX6_cutTo 109 = .ok (.iinc 5 1, 3) := by decide +kernel
theorem dX6_cutTo_112 : decode cX6_cutTo 112 = .ok (.goto (-56), 3) := by decide +kernel
theorem dX6_cutTo_115 : decode cX6_cutTo 115 = .ok (.aload_n 0, 1) := by decide +kernel
theorem dX6_cutTo_116 : decode cX6_cutTo 116 = .ok (.iload_n 3, 1) := by decide +kernel
theorem dX6_cutTo_117 : decode cX6_cutTo 117 = .ok (.putfield 31, 3) := by decide +kernel
theorem dX6_cutTo_120 : decode cX6_cutTo 120 = .ok (.aload_n 0, 1) := by decide +kernel
theorem dX6_cutTo_121 : decode cX6_cutTo 121 = .ok (.iload 4, 2) := by decide +kernel
theorem dX6_cutTo_123 : decode cX6_cutTo 123 = .ok (.putfield 34, 3) := by decide +kernel
theorem dX6_cutTo_126 : decode cX6_cutTo 126 = .ok (.iconst 0, 1) := by decide +kernel
theorem dX6_cutTo_127 : decode cX6_cutTo 127 = .ok (.istore_n 3, 1) := by decide +kernel
theorem dX6_cutTo_128 : decode cX6_cutTo 128 = .ok (.iconst 0, 1) := by decide +kernel
theorem dX6_cutTo_129 : decode cX6_cutTo 129 = .ok (.istore 5, 2) := by decide +kernel
theorem dX6_cutTo_131 : decode cX6_cutTo 131 = .ok (.iload 5, 2) := by decide +kernel
theorem dX6_cutTo_133 : decode cX6_cutTo 133 = .ok (.aload_n 0, 1) := by decide +kernel
theorem dX6_cutTo_134 : decode cX6_cutTo 134 = .ok (.getfield 59, 3) := by decide +kernel
theorem dX6_cutTo_137 : decode cX6_cutTo 137 = .ok (.if_icmp .ge 80, 3) := by decide +kernel
theorem dX6_cutTo_140 : decode cX6_cutTo 140 = .ok (.aload_n 0, 1) := by decide +kernel
theorem dX6_cutTo_141 : decode cX6_cutTo 141 = .ok (.getfield 49, 3) := by decide +kernel
theorem dX6_cutTo_144 : decode cX6_cutTo 144 = .ok (.iload 5, 2) := by decide +kernel
theorem dX6_cutTo_146 : decode cX6_cutTo 146 = .ok (.iaload, 1) := by decide +kernel
theorem dX6_cutTo_147 : decode cX6_cutTo 147 = .ok (.aload_n 0, 1) := by decide +kernel
theorem dX6_cutTo_148 : decode cX6_cutTo 148 = .ok (.getfield 52, 3) := by decide +kernel
theorem dX6_cutTo_151 : decode cX6_cutTo 151 = .ok (.iload 5, 2) := by decide +kernel
theorem dX6_cutTo_153 : decode cX6_cutTo 153 = .ok (.iaload, 1) := by decide +kernel
theorem dX6_cutTo_154 : decode cX6_cutTo 154 = .ok (.iload_n 1, 1) := by decide +kernel
theorem dX6_cutTo_155 : decode cX6_cutTo 155 = .ok (.iconst 1, 1) := by decide +kernel
theorem dX6_cutTo_156 : decode cX6_cutTo 156 = .ok (.isub, 1) := by decide +kernel
theorem dX6_cutTo_157 : decode cX6_cutTo 157 = .ok (.invokestatic 73, 3) := by decide +kernel
theorem dX6_cutTo_160 : decode cX6_cutTo 160 = .ok (.if_icmp .ge 51, 3) := by decide +kernel
theorem dX6_cutTo_163 : decode cX6_cutTo 163 = .ok (.aload_n 0, 1) := by decide +kernel
theorem dX6_cutTo_164 : decode cX6_cutTo 164 = .ok (.getfield 49, 3) := by decide +kernel
theorem dX6_cutTo_167 : decode cX6_cutTo 167 = .ok (.iload_n 3, 1) := by decide +kernel
theorem dX6_cutTo_168 : decode cX6_cutTo 168 = .ok (.aload_n 0, 1) := by decide +kernel
theorem dX6_cutTo_169 : decode cX6_cutTo 169 = .ok (.getfield 49, 3) := by decide +kernel
theorem dX6_cutTo_172 : decode cX6_cutTo 172 = .ok (.iload 5, 2) := by decide +kernel
theorem dX6_cutTo_174 : decode cX6_cutTo 174 = .ok (.iaload, 1) := by decide +kernel
theorem dX6_cutTo_175 : decode cX6_cutTo 175 = .ok (.iastore, 1) := by decide +kernel
theorem dX6_cutTo_176 : decode cX6_cutTo 176 = .ok (.aload_n 0, 1) := by decide +kernel
theorem dX6_cutTo_177 : decode cX6_cutTo 177 = .ok (.getfield 52, 3) := by decide +kernel
theorem dX6_cutTo_180 : decode cX6_cutTo 180 = .ok (.iload_n 3, 1) := by decide +kernel
theorem dX6_cutTo_181 : decode cX6_cutTo 181 = .ok (.aload_n 0, 1) := by decide +kernel
theorem dX6_cutTo_182 : decode cX6_cutTo 182 = .ok (.getfield 52, 3) := by decide +kernel
theorem dX6_cutTo_185 : decode cX6_cutTo 185 = .ok (.iload 5, 2) := by decide +kernel
theorem dX6_cutTo_187 : decode cX6_cutTo 187 = .ok (.iaload, 1) := by decide +kernel
theorem dX6_cutTo_188 : decode cX6_cutTo 188 = .ok (.iload_n 1, 1) := by decide +kernel
theorem dX6_cutTo_189 : decode cX6_cutTo 189 = .ok (.iconst 1, 1) := by decide +kernel
theorem dX6_cutTo_190 : decode cX6_cutTo 190 = .ok (.isub, 1) := by decide +kernel
theorem dX6_cutTo_191 : decode cX6_cutTo 191 = .ok (.invokestatic 73, 3) := by decide +kernel
theorem dX6_cutTo_194 : decode cX6_cutTo 194 = .ok (.iastore, 1) := by decide +kernel
theorem dX6_cutTo_195 : decode cX6_cutTo 195 = .ok (.aload_n 0, 1) := by decide +kernel
theorem dX6_cutTo_196 : decode cX6_cutTo 196 = .ok (.getfield 55, 3) := by decide +kernel
theorem dX6_cutTo_199 : decode cX6_cutTo 199 = .ok (.iload_n 3, 1) := by decide +kernel
theorem dX6_cutTo_200 : decode cX6_cutTo 200 = .ok (.aload_n 0, 1) := by decide +kernel
theorem dX6_cutTo_201 : decode cX6_cutTo 201 = .ok (.getfield 55, 3) := by decide +kernel
theorem dX6_cutTo_204 : decode cX6_cutTo 204 = .ok (.iload 5, 2) := by decide +kernel
theorem dX6_cutTo_206 : decode cX6_cutTo 206 = .ok (.baload, 1) := by decide +kernel
theorem dX6_cutTo_207 : decode cX6_cutTo 207 = .ok (.bastore, 1) := by decide +kernel
theorem dX6_cutTo_208 : decode cX6_cutTo 208 = .ok (.iinc 3 1, 3) := by decide +kernel
theorem dX6_cutTo_211 : decode cX6_cutTo 211 = .ok (.iinc 5 1, 3) := by decide +kernel
theorem dX6_cutTo_214 : decode cX6_cutTo 214 = .ok (.goto (-83), 3) := by decide +kernel
theorem dX6_cutTo_217 : decode cX6_cutTo 217 = .ok (.aload_n 0, 1) := by decide +kernel
theorem dX6_cutTo_218 : decode cX6_cutTo 218 = .ok (.iload_n 3, 1) := by decide +kernel
theorem dX6_cutTo_219 : decode cX6_cutTo 219 = .ok (.putfield 59, 3) := by decide +kernel
theorem dX6_cutTo_222 : decode cX6_cutTo 222 = .ok (.return_, 1) := by decide +kernel
theorem dX11_sizeOf_0 : decode cX11_sizeOf 0 = .ok (.iload_n 1, 1) := by decide +kernel
theorem dX11_sizeOf_1 : decode cX11_sizeOf 1 = .ok (.ifCond .lt 11, 3) := by decide +kernel
theorem dX11_sizeOf_4 : decode cX11_sizeOf 4 = .ok (.iload_n 1, 1) := by decide +kernel
theorem dX11_sizeOf_5 : decode cX11_sizeOf 5 = .ok (.aload_n 0, 1) := by decide +kernel
theorem dX11_sizeOf_6 : decode cX11_sizeOf 6 = .ok (.getfield 26, 3) := by decide +kernel
theorem dX11_sizeOf_9 : decode cX11_sizeOf 9 = .ok (.if_icmp .lt 7, 3) := by decide +kernel
theorem dX11_sizeOf_12 : decode cX11_sizeOf 12 = .ok (.iconst 0, 1) := by decide +kernel
theorem dX11_sizeOf_13 : decode cX11_sizeOf 13 = .ok (.goto 9, 3) := by decide +kernel
theorem dX11_sizeOf_16 : decode cX11_sizeOf 16 = .ok (.aload_n 0, 1) := by decide +kernel
theorem dX11_sizeOf_17 : decode cX11_sizeOf 17 = .ok (.getfield 15, 3) := by decide +kernel
theorem dX11_sizeOf_20 : decode cX11_sizeOf 20 = .ok (.iload_n 1, 1) := by decide +kernel
theorem dX11_sizeOf_21 : decode cX11_sizeOf 21 = .ok (.iaload, 1) := by decide +kernel
theorem dX11_sizeOf_22 : decode cX11_sizeOf 22 = .ok (.ireturn, 1) := by decide +kernel
theorem dX11_signAt_0 : decode cX11_signAt 0 = .ok (.iload_n 1, 1) := by decide +kernel
theorem dX11_signAt_1 : decode cX11_signAt 1 = .ok (.ifCond .lt 25, 3) := by decide +kernel
theorem dX11_signAt_4 : decode cX11_signAt 4 = .ok (.iload_n 1, 1) := by decide +kernel
theorem dX11_signAt_5 : decode cX11_signAt 5 = .ok (.aload_n 0, 1) := by decide +kernel
theorem dX11_signAt_6 : decode cX11_signAt 6 = .ok (.getfield 26, 3) := by decide +kernel
theorem dX11_signAt_9 : decode cX11_signAt 9 = .ok (.if_icmp .ge 17, 3) := by decide +kernel
theorem dX11_signAt_12 : decode cX11_signAt 12 = .ok (.iload_n 2, 1) := by decide +kernel
theorem dX11_signAt_13 : decode cX11_signAt 13 = .ok (.ifCond .lt 13, 3) := by decide +kernel
theorem dX11_signAt_16 : decode cX11_signAt 16 = .ok (.iload_n 2, 1) := by decide +kernel
theorem dX11_signAt_17 : decode cX11_signAt 17 = .ok (.aload_n 0, 1) := by decide +kernel
theorem dX11_signAt_18 : decode cX11_signAt 18 = .ok (.getfield 15, 3) := by decide +kernel
theorem dX11_signAt_21 : decode cX11_signAt 21 = .ok (.iload_n 1, 1) := by decide +kernel
theorem dX11_signAt_22 : decode cX11_signAt 22 = .ok (.iaload, 1) := by decide +kernel
theorem dX11_signAt_23 : decode cX11_signAt 23 = .ok (.if_icmp .lt 7, 3) := by decide +kernel
theorem dX11_signAt_26 : decode cX11_signAt 26 = .ok (.iconst 0, 1) := by decide +kernel
theorem dX11_signAt_27 : decode cX11_signAt 27 = .ok (.goto 14, 3) := by decide +kernel
theorem dX11_signAt_30 : decode cX11_signAt 30 = .ok (.aload_n 0, 1) := by decide +kernel
theorem dX11_signAt_31 : decode cX11_signAt 31 = .ok (.getfield 9, 3) := by decide +kernel
theorem dX11_signAt_34 : decode cX11_signAt 34 = .ok (.iload_n 1, 1) := by decide +kernel
theorem dX11_signAt_35 : decode cX11_signAt 35 = .ok (.bipush 60, 2) := by decide +kernel
theorem dX11_signAt_37 : decode cX11_signAt 37 = .ok (.imul, 1) := by decide +kernel
theorem dX11_signAt_38 : decode cX11_signAt 38 = .ok (.iload_n 2, 1) := by decide +kernel
theorem dX11_signAt_39 : decode cX11_signAt 39 = .ok (.iadd, 1) := by decide +kernel
theorem dX11_signAt_40 : decode cX11_signAt 40 = .ok (.caload, 1) := by decide +kernel
theorem dX11_signAt_41 : decode cX11_signAt 41 = .ok (.ireturn, 1) := by decide +kernel
theorem dX11_kindAt_0 : decode cX11_kindAt 0 = .ok (.iload_n 1, 1) := by decide +kernel
theorem dX11_kindAt_1 : decode cX11_kindAt 1 = .ok (.ifCond .lt 25, 3) := by decide +kernel
theorem dX11_kindAt_4 : decode cX11_kindAt 4 = .ok (.iload_n 1, 1) := by decide +kernel
theorem dX11_kindAt_5 : decode cX11_kindAt 5 = .ok (.aload_n 0, 1) := by decide +kernel
theorem dX11_kindAt_6 : decode cX11_kindAt 6 = .ok (.getfield 26, 3) := by decide +kernel
theorem dX11_kindAt_9 : decode cX11_kindAt 9 = .ok (.if_icmp .ge 17, 3) := by decide +kernel
theorem dX11_kindAt_12 : decode cX11_kindAt 12 = .ok (.iload_n 2, 1) := by decide +kernel
theorem dX11_kindAt_13 : decode cX11_kindAt 13 = .ok (.ifCond .lt 13, 3) := by decide +kernel
theorem dX11_kindAt_16 : decode cX11_kindAt 16 = .ok (.iload_n 2, 1) := by decide +kernel
theorem dX11_kindAt_17 : decode cX11_kindAt 17 = .ok (.aload_n 0, 1) := by decide +kernel
theorem dX11_kindAt_18 : decode cX11_kindAt 18 = .ok (.getfield 15, 3) := by decide +kernel
theorem dX11_kindAt_21 : decode cX11_kindAt 21 = .ok (.iload_n 1, 1) := by decide +kernel
theorem dX11_kindAt_22 : decode cX11_kindAt 22 = .ok (.iaload, 1) := by decide +kernel
theorem dX11_kindAt_23 : decode cX11_kindAt 23 = .ok (.if_icmp .lt 5, 3) := by decide +kernel
theorem dX11_kindAt_26 : decode cX11_kindAt 26 = .ok (.iconst (-1), 1) := by decide +kernel
theorem dX11_kindAt_27 : decode cX11_kindAt 27 = .ok (.ireturn, 1) := by decide +kernel
theorem dX11_kindAt_28 : decode cX11_kindAt 28 = .ok (.aload_n 0, 1) := by decide +kernel
theorem dX11_kindAt_29 : decode cX11_kindAt 29 = .ok (.getfield 9, 3) := by decide +kernel
theorem dX11_kindAt_32 : decode cX11_kindAt 32 = .ok (.iload_n 1, 1) := by decide +kernel
theorem dX11_kindAt_33 : decode cX11_kindAt 33 = .ok (.bipush 60, 2) := by decide +kernel
theorem dX11_kindAt_35 : decode cX11_kindAt 35 = .ok (.imul, 1) := by decide +kernel
theorem dX11_kindAt_36 : decode cX11_kindAt 36 = .ok (.iload_n 2, 1) := by decide +kernel
theorem dX11_kindAt_37 : decode cX11_kindAt 37 = .ok (.iadd, 1) := by decide +kernel
theorem dX11_kindAt_38 : decode cX11_kindAt 38 = .ok (.caload, 1) := by decide +kernel
theorem dX11_kindAt_39 : decode cX11_kindAt 39 = .ok (.istore_n 3, 1) := by decide +kernel
theorem dX11_kindAt_40 : decode cX11_kindAt 40 = .ok (.iload_n 3, 1) := by decide +kernel
theorem dX11_kindAt_41 : decode cX11_kindAt 41 = .ok (.bipush 32, 2) := by decide +kernel
theorem dX11_kindAt_43 : decode cX11_kindAt 43 = .ok (.if_icmp .ne 5, 3) := by decide +kernel
theorem dX11_kindAt_46 : decode cX11_kindAt 46 = .ok (.iconst 0, 1) := by decide +kernel
theorem dX11_kindAt_47 : decode cX11_kindAt 47 = .ok (.ireturn, 1) := by decide +kernel
theorem dX11_kindAt_48 : decode cX11_kindAt 48 = .ok (.iload_n 3, 1) := by decide +kernel
theorem dX11_kindAt_49 : decode cX11_kindAt 49 = .ok (.bipush 97, 2) := by decide +kernel
theorem dX11_kindAt_51 : decode cX11_kindAt 51 = .ok (.if_icmp .lt 9, 3) := by decide +kernel
theorem dX11_kindAt_54 : decode cX11_kindAt 54 = .ok (.iload_n 3, 1) := by decide +kernel
theorem dX11_kindAt_55 : decode cX11_kindAt 55 = .ok (.bipush 122, 2) := by decide +kernel
theorem dX11_kindAt_57 : decode cX11_kindAt 57 = .ok (.if_icmp .le 33, 3) := by decide +kernel
theorem dX11_kindAt_60 : decode cX11_kindAt 60 = .ok (.iload_n 3, 1) := by decide +kernel
theorem dX11_kindAt_61 : decode cX11_kindAt 61 = .ok (.bipush 65, 2) := by decide +kernel
theorem dX11_kindAt_63 : decode cX11_kindAt 63 = .ok (.if_icmp .lt 9, 3) := by decide +kernel
theorem dX11_kindAt_66 : decode cX11_kindAt 66 = .ok (.iload_n 3, 1) := by decide +kernel
theorem dX11_kindAt_67 : decode cX11_kindAt 67 = .ok (.bipush 90, 2) := by decide +kernel
theorem dX11_kindAt_69 : decode cX11_kindAt 69 = .ok (.if_icmp .le 21, 3) := by decide +kernel
theorem dX11_kindAt_72 : decode cX11_kindAt 72 = .ok (.iload_n 3, 1) := by decide +kernel
theorem dX11_kindAt_73 : decode cX11_kindAt 73 = .ok (.bipush 48, 2) := by decide +kernel
theorem dX11_kindAt_75 : decode cX11_kindAt 75 = .ok (.if_icmp .lt 9, 3) := by decide +kernel
theorem dX11_kindAt_78 : decode cX11_kindAt 78 = .ok (.iload_n 3, 1) := by decide +kernel
theorem dX11_kindAt_79 : decode cX11_kindAt 79 = .ok (.bipush 57, 2) := by decide +kernel
theorem dX11_kindAt_81 : decode cX11_kindAt 81 = .ok (.if_icmp .le 9, 3) := by decide +kernel
theorem dX11_kindAt_84 : decode cX11_kindAt 84 = .ok (.iload_n 3, 1) := by decide +kernel
theorem dX11_kindAt_85 : decode cX11_kindAt 85 = .ok (.bipush 95, 2) := by decide +kernel
theorem dX11_kindAt_87 : decode cX11_kindAt 87 = .ok (.if_icmp .ne 7, 3) := by decide +kernel
theorem dX11_kindAt_90 : decode cX11_kindAt 90 = .ok (.iconst 1, 1) := by decide +kernel
theorem dX11_kindAt_91 : decode cX11_kindAt 91 = .ok (.goto 4, 3) := by decide +kernel
theorem dX11_kindAt_94 : decode cX11_kindAt 94 = .ok (.iconst 0, 1) := by decide +kernel
theorem dX11_kindAt_95 : decode cX11_kindAt 95 = .ok (.istore 4, 2) := by decide +kernel
theorem dX11_kindAt_97 : decode cX11_kindAt 97 = .ok (.iload 4, 2) := by decide +kernel
theorem dX11_kindAt_99 : decode cX11_kindAt 99 = .ok (.ifCond .eq 7, 3) := by decide +kernel
theorem dX11_kindAt_102 : decode cX11_kindAt 102 = .ok (.iconst 1, 1) := by decide +kernel
theorem dX11_kindAt_103 : decode cX11_kindAt 103 = .ok (.goto 4, 3) := by decide +kernel
theorem dX11_kindAt_106 : decode cX11_kindAt 106 = .ok (.iconst 2, 1) := by decide +kernel
theorem dX11_kindAt_107 : decode cX11_kindAt 107 = .ok (.ireturn, 1) := by decide +kernel
theorem dX11_firstSign_0 : decode cX11_firstSign 0 = .ok (.iload_n 1, 1) := by decide +kernel
theorem dX11_firstSign_1 : decode cX11_firstSign 1 = .ok (.ifCond .lt 11, 3) := by decide +kernel
theorem dX11_firstSign_4 : decode cX11_firstSign 4 = .ok (.iload_n 1, 1) := by decide +kernel
theorem dX11_firstSign_5 : decode cX11_firstSign 5 = .ok (.aload_n 0, 1) := by decide +kernel
theorem dX11_firstSign_6 : decode cX11_firstSign 6 = .ok (.getfield 26, 3) := by decide +kernel
theorem dX11_firstSign_9 : decode cX11_firstSign 9 = .ok (.if_icmp .lt 5, 3) := by decide +kernel
theorem dX11_firstSign_12 : decode cX11_firstSign 12 = .ok (.iconst 0, 1) := by decide +kernel
theorem dX11_firstSign_13 : decode cX11_firstSign 13 = .ok (.ireturn, 1) := by decide +kernel
theorem dX11_firstSign_14 : decode cX11_firstSign 14 = .ok (.iconst 0, 1) := by decide +kernel
theorem dX11_firstSign_15 : decode cX11_firstSign 15 = .ok (.istore_n 2, 1) := by decide +kernel
theorem dX11_firstSign_16 : decode cX11_firstSign 16 = .ok (.iload_n 2, 1) := by decide +kernel
theorem dX11_firstSign_17 : decode cX11_firstSign 17 = .ok (.aload_n 0, 1) := by decide +kernel
theorem dX11_firstSign_18 : decode cX11_firstSign 18 = .ok (.getfield 15, 3) := by decide +kernel
theorem dX11_firstSign_21 : decode cX11_firstSign 21 = .ok (.iload_n 1, 1) := by decide +kernel
theorem dX11_firstSign_22 : decode cX11_firstSign 22 = .ok (.iaload, 1) := by decide +kernel
theorem dX11_firstSign_23 : decode cX11_firstSign 23 = .ok (.iconst 1, 1) := by decide +kernel
theorem dX11_firstSign_24 : decode cX11_firstSign 24 = .ok (.isub, 1) := by decide +kernel
theorem dX11_firstSign_25 : decode cX11_firstSign 25 = .ok (.if_icmp .ge 25, 3) := by decide +kernel
theorem dX11_firstSign_28 : decode cX11_firstSign 28 = .ok (.aload_n 0, 1) := by decide +kernel
theorem dX11_firstSign_29 : decode cX11_firstSign 29 = .ok (.getfield 9, 3) := by decide +kernel
theorem dX11_firstSign_32 : decode cX11_firstSign 32 = .ok (.iload_n 1, 1) := by decide +kernel
theorem dX11_firstSign_33 : decode cX11_firstSign 33 = .ok (.bipush 60, 2) := by decide +kernel
theorem dX11_firstSign_35 : decode cX11_firstSign 35 = .ok (.imul, 1) := by decide +kernel
theorem dX11_firstSign_36 : decode cX11_firstSign 36 = .ok (.iload_n 2, 1) := by decide +kernel
theorem dX11_firstSign_37 : decode cX11_firstSign 37 = .ok (.iadd, 1) := by decide +kernel
theorem dX11_firstSign_38 : decode cX11_firstSign 38 = .ok (.caload, 1) := by decide +kernel
theorem dX11_firstSign_39 : decode cX11_firstSign 39 = .ok (.bipush 32, 2) := by decide +kernel
theorem dX11_firstSign_41 : decode cX11_firstSign 41 = .ok (.if_icmp .ne 9, 3) := by decide +kernel
theorem dX11_firstSign_44 : decode cX11_firstSign 44 = .ok (.iinc 2 1, 3) := by decide +kernel
theorem dX11_firstSign_47 : decode cX11_firstSign 47 = .ok (.goto (-31), 3) := by decide +kernel
theorem dX11_firstSign_50 : decode cX11_firstSign 50 = .ok (.iload_n 2, 1) := by decide +kernel
theorem dX11_firstSign_51 : decode cX11_firstSign 51 = .ok (.ireturn, 1) := by decide +kernel
theorem dX11_blanks_0 : decode cX11_blanks 0 = .ok (.aload_n 0, 1) := by decide +kernel
theorem dX11_blanks_1 : decode cX11_blanks 1 = .ok (.iload_n 1, 1) := by decide +kernel
theorem dX11_blanks_2 : decode cX11_blanks 2 = .ok (.invokevirtual 33, 3) := by decide +kernel
theorem dX11_blanks_5 : decode cX11_blanks 5 = .ok (.istore_n 2, 1) := by decide +kernel
theorem dX11_blanks_6 : decode cX11_blanks 6 = .ok (.iconst 0, 1) := by decide +kernel
theorem dX11_blanks_7 : decode cX11_blanks 7 = .ok (.istore_n 3, 1) := by decide +kernel
theorem dX11_blanks_8 : decode cX11_blanks 8 = .ok (.iload_n 3, 1) := by decide +kernel
theorem dX11_blanks_9 : decode cX11_blanks 9 = .ok (.iload_n 2, 1) := by decide +kernel
theorem dX11_blanks_10 : decode cX11_blanks 10 = .ok (.if_icmp .ge 25, 3) := by decide +kernel
theorem dX11_blanks_13 : decode cX11_blanks 13 = .ok (.aload_n 0, 1) := by decide +kernel
theorem dX11_blanks_14 : decode cX11_blanks 14 = .ok (.getfield 9, 3) := by decide +kernel
theorem dX11_blanks_17 : decode cX11_blanks 17 = .ok (.iload_n 1, 1) := by decide +kernel
theorem dX11_blanks_18 : decode cX11_blanks 18 = .ok (.bipush 60, 2) := by decide +kernel
theorem dX11_blanks_20 : decode cX11_blanks 20 = .ok (.imul, 1) := by decide +kernel
theorem dX11_blanks_21 : decode cX11_blanks 21 = .ok (.iload_n 3, 1) := by decide +kernel
theorem dX11_blanks_22 : decode cX11_blanks 22 = .ok (.iadd, 1) := by decide +kernel
theorem dX11_blanks_23 : decode cX11_blanks 23 = .ok (.caload, 1) := by decide +kernel
theorem dX11_blanks_24 : decode cX11_blanks 24 = .ok (.bipush 32, 2) := by decide +kernel
theorem dX11_blanks_26 : decode cX11_blanks 26 = .ok (.if_icmp .ne 9, 3) := by decide +kernel
theorem dX11_blanks_29 : decode cX11_blanks 29 = .ok (.iinc 3 1, 3) := by decide +kernel
theorem dX11_blanks_32 : decode cX11_blanks 32 = .ok (.goto (-24), 3) := by decide +kernel
theorem dX11_blanks_35 : decode cX11_blanks 35 = .ok (.iload_n 3, 1) := by decide +kernel
theorem dX11_blanks_36 : decode cX11_blanks 36 = .ok (.ireturn, 1) := by decide +kernel
theorem dX11_nameOf_0 : decode cX11_nameOf 0 = .ok (.iload_n 1, 1) := by decide +kernel
theorem dX11_nameOf_1 : decode cX11_nameOf 1 = .ok (.ifCond .lt 11, 3) := by decide +kernel
theorem dX11_nameOf_4 : decode cX11_nameOf 4 = .ok (.iload_n 1, 1) := by decide +kernel
theorem dX11_nameOf_5 : decode cX11_nameOf 5 = .ok (.aload_n 0, 1) := by decide +kernel
theorem dX11_nameOf_6 : decode cX11_nameOf 6 = .ok (.getfield 26, 3) := by decide +kernel
theorem dX11_nameOf_9 : decode cX11_nameOf 9 = .ok (.if_icmp .lt 7, 3) := by decide +kernel
theorem dX11_nameOf_12 : decode cX11_nameOf 12 = .ok (.iconst (-1), 1) := by decide +kernel
theorem dX11_nameOf_13 : decode cX11_nameOf 13 = .ok (.goto 9, 3) := by decide +kernel
theorem dX11_nameOf_16 : decode cX11_nameOf 16 = .ok (.aload_n 0, 1) := by decide +kernel
theorem dX11_nameOf_17 : decode cX11_nameOf 17 = .ok (.getfield 19, 3) := by decide +kernel
theorem dX11_nameOf_20 : decode cX11_nameOf 20 = .ok (.iload_n 1, 1) := by decide +kernel
theorem dX11_nameOf_21 : decode cX11_nameOf 21 = .ok (.iaload, 1) := by decide +kernel
theorem dX11_nameOf_22 : decode cX11_nameOf 22 = .ok (.ireturn, 1) := by decide +kernel
theorem dX11_rowNamed_0 : decode cX11_rowNamed 0 = .ok (.iconst 0, 1) := by decide +kernel
theorem dX11_rowNamed_1 : decode cX11_rowNamed 1 = .ok (.istore_n 2, 1) := by decide +kernel
theorem dX11_rowNamed_2 : decode cX11_rowNamed 2 = .ok (.iload_n 2, 1) := by decide +kernel
theorem dX11_rowNamed_3 : decode cX11_rowNamed 3 = .ok (.aload_n 0, 1) := by decide +kernel
theorem dX11_rowNamed_4 : decode cX11_rowNamed 4 = .ok (.getfield 26, 3) := by decide +kernel
theorem dX11_rowNamed_7 : decode cX11_rowNamed 7 = .ok (.if_icmp .ge 21, 3) := by decide +kernel
theorem dX11_rowNamed_10 : decode cX11_rowNamed 10 = .ok (.aload_n 0, 1) := by decide +kernel
theorem dX11_rowNamed_11 : decode cX11_rowNamed 11 = .ok (.getfield 19, 3) := by decide +kernel
theorem dX11_rowNamed_14 : decode cX11_rowNamed 14 = .ok (.iload_n 2, 1) := by decide +kernel
theorem dX11_rowNamed_15 : decode cX11_rowNamed 15 = .ok (.iaload, 1) := by decide +kernel
theorem dX11_rowNamed_16 : decode cX11_rowNamed 16 = .ok (.iload_n 1, 1) := by decide +kernel
theorem dX11_rowNamed_17 : decode cX11_rowNamed 17 = .ok (.if_icmp .ne 5, 3) := by decide +kernel
theorem dX11_rowNamed_20 : decode cX11_rowNamed 20 = .ok (.iload_n 2, 1) := by decide +kernel
theorem dX11_rowNamed_21 : decode cX11_rowNamed 21 = .ok (.ireturn, 1) := by decide +kernel
theorem dX11_rowNamed_22 : decode cX11_rowNamed 22 = .ok (.iinc 2 1, 3) := by decide +kernel
theorem dX11_rowNamed_25 : decode cX11_rowNamed 25 = .ok (.goto (-23), 3) := by decide +kernel
theorem dX11_rowNamed_28 : decode cX11_rowNamed 28 = .ok (.iconst (-1), 1) := by decide +kernel
theorem dX11_rowNamed_29 : decode cX11_rowNamed 29 = .ok (.ireturn, 1) := by decide +kernel
theorem dX11_isLike_0 : decode cX11_isLike 0 = .ok (.aload_n 0, 1) := by decide +kernel
theorem dX11_isLike_1 : decode cX11_isLike 1 = .ok (.aload_n 1, 1) := by decide +kernel
theorem dX11_isLike_2 : decode cX11_isLike 2 = .ok (.invokevirtual 37, 3) := by decide +kernel
theorem dX11_isLike_5 : decode cX11_isLike 5 = .ok (.iconst (-1), 1) := by decide +kernel
theorem dX11_isLike_6 : decode cX11_isLike 6 = .ok (.if_icmp .ne 7, 3) := by decide +kernel
theorem dX11_isLike_9 : decode cX11_isLike 9 = .ok (.iconst 1, 1) := by decide +kernel
theorem dX11_isLike_10 : decode cX11_isLike 10 = .ok (.goto 4, 3) := by decide +kernel
theorem dX11_isLike_13 : decode cX11_isLike 13 = .ok (.iconst 0, 1) := by decide +kernel
theorem dX11_isLike_14 : decode cX11_isLike 14 = .ok (.ireturn, 1) := by decide +kernel
theorem dX11_firstDifference_0 : decode cX11_firstDifference 0 = .ok (.iconst 0, 1) := by decide +kernel
theorem dX11_firstDifference_1 : decode cX11_firstDifference 1 = .ok (.istore_n 2, 1) := by decide +kernel
theorem dX11_firstDifference_2 : decode cX11_firstDifference 2 = .ok (.iload_n 2, 1) := by decide +kernel
theorem dX11_firstDifference_3 : decode cX11_firstDifference 3 = .ok (.aload_n 0, 1) := by decide +kernel
theorem dX11_firstDifference_4 : decode cX11_firstDifference 4 = .ok (.getfield 26, 3) := by decide +kernel
theorem dX11_firstDifference_7 : decode cX11_firstDifference 7 = .ok (.if_icmp .ge 77, 3) := by decide +kernel
theorem dX11_firstDifference_10 : decode cX11_firstDifference 10 = .ok (.iload_n 2, 1) := by decide +kernel
theorem dX11_firstDifference_11 : decode cX11_firstDifference 11 = .ok (.aload_n 1, 1) := by decide +kernel
theorem dX11_firstDifference_12 : decode cX11_firstDifference 12 = .ok (.getfield 26, 3) := by decide +kernel
theorem dX11_firstDifference_15 : decode cX11_firstDifference 15 = .ok (.if_icmp .ge 69, 3) := by decide +kernel
theorem dX11_firstDifference_18 : decode cX11_firstDifference 18 = .ok (.aload_n 0, 1) := by decide +kernel
theorem dX11_firstDifference_19 : decode cX11_firstDifference 19 = .ok (.getfield 15, 3) := by decide +kernel
theorem dX11_firstDifference_22 : decode cX11_firstDifference 22 = .ok (.iload_n 2, 1) := by decide +kernel
theorem dX11_firstDifference_23 : decode cX11_firstDifference 23 = .ok (.iaload, 1) := by decide +kernel
theorem dX11_firstDifference_24 : decode cX11_firstDifference 24 = .ok (.aload_n 1, 1) := by decide +kernel
theorem dX11_firstDifference_25 : decode cX11_firstDifference 25 = .ok (.getfield 15, 3) := by decide +kernel
theorem dX11_firstDifference_28 : decode cX11_firstDifference 28 = .ok (.iload_n 2, 1) := by decide +kernel
theorem dX11_firstDifference_29 : decode cX11_firstDifference 29 = .ok (.iaload, 1) := by decide +kernel
theorem dX11_firstDifference_30 : decode cX11_firstDifference 30 = .ok (.if_icmp .eq 5, 3) := by decide +kernel
theorem dX11_firstDifference_33 : decode cX11_firstDifference 33 = .ok (.iload_n 2, 1) := by decide +kernel
theorem dX11_firstDifference_34 : decode cX11_firstDifference 34 = .ok (.ireturn, 1) := by decide +kernel
theorem dX11_firstDifference_35 : decode cX11_firstDifference 35 = .ok (.iload_n 2, 1) := by decide +kernel
theorem dX11_firstDifference_36 : decode cX11_firstDifference 36 = .ok (.bipush 60, 2) := by decide +kernel
theorem dX11_firstDifference_38 : decode cX11_firstDifference 38 = .ok (.imul, 1) := by decide +kernel
theorem dX11_firstDifference_39 : decode cX11_firstDifference 39 = .ok (.istore_n 3, 1) := by decide +kernel
theorem dX11_firstDifference_40 : decode cX11_firstDifference 40 = .ok (.iload_n 3, 1) := by decide +kernel
theorem dX11_firstDifference_41 : decode cX11_firstDifference 41 = .ok (.iload_n 2, 1) := by decide +kernel
theorem dX11_firstDifference_42 : decode cX11_firstDifference 42 = .ok (.bipush 60, 2) := by decide +kernel
theorem dX11_firstDifference_44 : decode cX11_firstDifference 44 = .ok (.imul, 1) := by decide +kernel
theorem dX11_firstDifference_45 : decode cX11_firstDifference 45 = .ok (.aload_n 0, 1) := by decide +kernel
theorem dX11_firstDifference_46 : decode cX11_firstDifference 46 = .ok (.getfield 15, 3) := by decide +kernel
theorem dX11_firstDifference_49 : decode cX11_firstDifference 49 = .ok (.iload_n 2, 1) := by decide +kernel
theorem dX11_firstDifference_50 : decode cX11_firstDifference 50 = .ok (.iaload, 1) := by decide +kernel
theorem dX11_firstDifference_51 : decode cX11_firstDifference 51 = .ok (.iadd, 1) := by decide +kernel
theorem dX11_firstDifference_52 : decode cX11_firstDifference 52 = .ok (.if_icmp .ge 26, 3) := by decide +kernel
theorem dX11_firstDifference_55 : decode cX11_firstDifference 55 = .ok (.aload_n 0, 1) := by decide +kernel
theorem dX11_firstDifference_56 : decode cX11_firstDifference 56 = .ok (.getfield 9, 3) := by decide +kernel
theorem dX11_firstDifference_59 : decode cX11_firstDifference 59 = .ok (.iload_n 3, 1) := by decide +kernel
theorem dX11_firstDifference_60 : decode cX11_firstDifference 60 = .ok (.caload, 1) := by decide +kernel
theorem dX11_firstDifference_61 : decode cX11_firstDifference 61 = .ok (.aload_n 1, 1) := by decide +kernel
theorem dX11_firstDifference_62 : decode cX11_firstDifference 62 = .ok (.getfield 9, 3) := by decide +kernel
theorem dX11_firstDifference_65 : decode cX11_firstDifference 65 = .ok (.iload_n 3, 1) := by decide +kernel
theorem dX11_firstDifference_66 : decode cX11_firstDifference 66 = .ok (.caload, 1) := by decide +kernel
theorem dX11_firstDifference_67 : decode cX11_firstDifference 67 = .ok (.if_icmp .eq 5, 3) := by decide +kernel
theorem dX11_firstDifference_70 : decode cX11_firstDifference 70 = .ok (.iload_n 2, 1) := by decide +kernel
theorem dX11_firstDifference_71 : decode cX11_firstDifference 71 = .ok (.ireturn, 1) := by decide +kernel
theorem dX11_firstDifference_72 : decode cX11_firstDifference 72 = .ok (.iinc 3 1, 3) := by decide +kernel
theorem dX11_firstDifference_75 : decode cX11_firstDifference 75 = .ok (.goto (-35), 3) := by decide +kernel
theorem dX11_firstDifference_78 : decode cX11_firstDifference 78 = .ok (.iinc 2 1, 3) := by decide +kernel
theorem dX11_firstDifference_81 : decode cX11_firstDifference 81 = .ok (.goto (-79), 3) := by decide +kernel
theorem dX11_firstDifference_84 : decode cX11_firstDifference 84 = .ok (.aload_n 0, 1) := by decide +kernel
theorem dX11_firstDifference_85 : decode cX11_firstDifference 85 = .ok (.getfield 26, 3) := by decide +kernel
theorem dX11_firstDifference_88 : decode cX11_firstDifference 88 = .ok (.aload_n 1, 1) := by decide +kernel
theorem dX11_firstDifference_89 : decode cX11_firstDifference 89 = .ok (.getfield 26, 3) := by decide +kernel
theorem dX11_firstDifference_92 : decode cX11_firstDifference 92 = .ok (.if_icmp .ne 7, 3) := by decide +kernel
theorem dX11_firstDifference_95 : decode cX11_firstDifference 95 = .ok (.iconst (-1), 1) := by decide +kernel
theorem dX11_firstDifference_96 : decode cX11_firstDifference 96 = .ok (.goto 14, 3) := by decide +kernel
theorem dX11_firstDifference_99 : decode cX11_firstDifference 99 = .ok (.aload_n 0, 1) := by decide +kernel
theorem dX11_firstDifference_100 : decode cX11_firstDifference 100 = .ok (.getfield 26, 3) := by decide +kernel
theorem dX11_firstDifference_103 : decode cX11_firstDifference 103 = .ok (.aload_n 1, 1) := by decide +kernel
theorem dX11_firstDifference_104 : decode cX11_firstDifference 104 = .ok (.getfield 26, 3) := by decide +kernel
theorem dX11_firstDifference_107 : decode cX11_firstDifference 107 = .ok (.invokestatic 41, 3) := by decide +kernel
theorem dX11_firstDifference_110 : decode cX11_firstDifference 110 = .ok (.ireturn, 1) := by decide +kernel
theorem dX11_copyOf_0 : decode cX11_copyOf 0 = .ok (.aload_n 1, 1) := by decide +kernel
theorem dX11_copyOf_1 : decode cX11_copyOf 1 = .ok (.getfield 9, 3) := by decide +kernel
theorem dX11_copyOf_4 : decode cX11_copyOf 4 = .ok (.iconst 0, 1) := by decide +kernel
theorem dX11_copyOf_5 : decode cX11_copyOf 5 = .ok (.aload_n 0, 1) := by decide +kernel
theorem dX11_copyOf_6 : decode cX11_copyOf 6 = .ok (.getfield 9, 3) := by decide +kernel
theorem dX11_copyOf_9 : decode cX11_copyOf 9 = .ok (.iconst 0, 1) := by decide +kernel
theorem dX11_copyOf_10 : decode cX11_copyOf 10 = .ok (.aload_n 0, 1) := by decide +kernel
theorem dX11_copyOf_11 : decode cX11_copyOf 11 = .ok (.getfield 9, 3) := by decide +kernel
theorem dX11_copyOf_14 : decode cX11_copyOf 14 = .ok (.arraylength, 1) := by decide +kernel
theorem dX11_copyOf_15 : decode cX11_copyOf 15 = .ok (.invokestatic 47, 3) := by decide +kernel
theorem dX11_copyOf_18 : decode cX11_copyOf 18 = .ok (.aload_n 1, 1) := by decide +kernel
theorem dX11_copyOf_19 : decode cX11_copyOf 19 = .ok (.getfield 15, 3) := by decide +kernel
theorem dX11_copyOf_22 : decode cX11_copyOf 22 = .ok (.iconst 0, 1) := by decide +kernel
theorem dX11_copyOf_23 : decode cX11_copyOf 23 = .ok (.aload_n 0, 1) := by decide +kernel
theorem dX11_copyOf_24 : decode cX11_copyOf 24 = .ok (.getfield 15, 3) := by decide +kernel
theorem dX11_copyOf_27 : decode cX11_copyOf 27 = .ok (.iconst 0, 1) := by decide +kernel
theorem dX11_copyOf_28 : decode cX11_copyOf 28 = .ok (.aload_n 0, 1) := by decide +kernel
theorem dX11_copyOf_29 : decode cX11_copyOf 29 = .ok (.getfield 15, 3) := by decide +kernel
theorem dX11_copyOf_32 : decode cX11_copyOf 32 = .ok (.arraylength, 1) := by decide +kernel
theorem dX11_copyOf_33 : decode cX11_copyOf 33 = .ok (.invokestatic 47, 3) := by decide +kernel
theorem dX11_copyOf_36 : decode cX11_copyOf 36 = .ok (.aload_n 0, 1) := by decide +kernel
theorem dX11_copyOf_37 : decode cX11_copyOf 37 = .ok (.aload_n 1, 1) := by decide +kernel
theorem dX11_copyOf_38 : decode cX11_copyOf 38 = .ok (.getfield 26, 3) := by decide +kernel
theorem dX11_copyOf_41 : decode cX11_copyOf 41 = .ok (.putfield 26, 3) := by decide +kernel
theorem dX11_copyOf_44 : decode cX11_copyOf 44 = .ok (.iconst 0, 1) := by decide +kernel
theorem dX11_copyOf_45 : decode cX11_copyOf 45 = .ok (.istore_n 2, 1) := by decide +kernel
theorem dX11_copyOf_46 : decode cX11_copyOf 46 = .ok (.iload_n 2, 1) := by decide +kernel
theorem dX11_copyOf_47 : decode cX11_copyOf 47 = .ok (.aload_n 0, 1) := by decide +kernel
theorem dX11_copyOf_48 : decode cX11_copyOf 48 = .ok (.getfield 26, 3) := by decide +kernel
theorem dX11_copyOf_51 : decode cX11_copyOf 51 = .ok (.if_icmp .ge 29, 3) := by decide +kernel
theorem dX11_copyOf_54 : decode cX11_copyOf 54 = .ok (.aload_n 0, 1) := by decide +kernel
theorem dX11_copyOf_55 : decode cX11_copyOf 55 = .ok (.dup, 1) := by decide +kernel
theorem dX11_copyOf_56 : decode cX11_copyOf 56 = .ok (.getfield 22, 3) := by decide +kernel
theorem dX11_copyOf_59 : decode cX11_copyOf 59 = .ok (.iconst 1, 1) := by decide +kernel
theorem dX11_copyOf_60 : decode cX11_copyOf 60 = .ok (.iadd, 1) := by decide +kernel
theorem dX11_copyOf_61 : decode cX11_copyOf 61 = .ok (.putfield 22, 3) := by decide +kernel
theorem dX11_copyOf_64 : decode cX11_copyOf 64 = .ok (.aload_n 0, 1) := by decide +kernel
theorem dX11_copyOf_65 : decode cX11_copyOf 65 = .ok (.getfield 19, 3) := by decide +kernel
theorem dX11_copyOf_68 : decode cX11_copyOf 68 = .ok (.iload_n 2, 1) := by decide +kernel
theorem dX11_copyOf_69 : decode cX11_copyOf 69 = .ok (.aload_n 0, 1) := by decide +kernel
theorem dX11_copyOf_70 : decode cX11_copyOf 70 = .ok (.getfield 22, 3) := by decide +kernel
theorem dX11_copyOf_73 : decode cX11_copyOf 73 = .ok (.iastore, 1) := by decide +kernel
theorem dX11_copyOf_74 : decode cX11_copyOf 74 = .ok (.iinc 2 1, 3) := by decide +kernel
theorem dX11_copyOf_77 : decode cX11_copyOf 77 = .ok (.goto (-31), 3) := by decide +kernel
theorem dX11_copyOf_80 : decode cX11_copyOf 80 = .ok (.return_, 1) := by decide +kernel
theorem dX11_read_0 : decode cX11_read 0 = .ok (.aload_n 0, 1) := by decide +kernel
theorem dX11_read_1 : decode cX11_read 1 = .ok (.iconst 1, 1) := by decide +kernel
theorem dX11_read_2 : decode cX11_read 2 = .ok (.putfield 26, 3) := by decide +kernel
theorem dX11_read_5 : decode cX11_read 5 = .ok (.aload_n 0, 1) := by decide +kernel
theorem dX11_read_6 : decode cX11_read 6 = .ok (.getfield 15, 3) := by decide +kernel
theorem dX11_read_9 : decode cX11_read 9 = .ok (.iconst 0, 1) := by decide +kernel
theorem dX11_read_10 : decode cX11_read 10 = .ok (.iconst 0, 1) := by decide +kernel
theorem dX11_read_11 : decode cX11_read 11 = .ok (.iastore, 1) := by decide +kernel
theorem dX11_read_12 : decode cX11_read 12 = .ok (.iconst 0, 1) := by decide +kernel
theorem dX11_read_13 : decode cX11_read 13 = .ok (.istore_n 2, 1) := by decide +kernel
theorem dX11_read_14 : decode cX11_read 14 = .ok (.iload_n 2, 1) := by decide +kernel
theorem dX11_read_15 : decode cX11_read 15 = .ok (.aload_n 1, 1) := by decide +kernel
theorem dX11_read_16 : decode cX11_read 16 = .ok (.getfield 53, 3) := by decide +kernel
theorem dX11_read_19 : decode cX11_read 19 = .ok (.if_icmp .ge 102, 3) := by decide +kernel
theorem dX11_read_22 : decode cX11_read 22 = .ok (.aload_n 0, 1) := by decide +kernel
theorem dX11_read_23 : decode cX11_read 23 = .ok (.getfield 26, 3) := by decide +kernel
theorem dX11_read_26 : decode cX11_read 26 = .ok (.iconst 1, 1) := by decide +kernel
theorem dX11_read_27 : decode cX11_read 27 = .ok (.isub, 1) := by decide +kernel
theorem dX11_read_28 : decode cX11_read 28 = .ok (.istore_n 3, 1) := by decide +kernel
theorem dX11_read_29 : decode cX11_read 29 = .ok (.aload_n 1, 1) := by decide +kernel
theorem dX11_read_30 : decode cX11_read 30 = .ok (.getfield 58, 3) := by decide +kernel
theorem dX11_read_33 : decode cX11_read 33 = .ok (.iload_n 2, 1) := by decide +kernel
theorem dX11_read_34 : decode cX11_read 34 = .ok (.caload, 1) := by decide +kernel
theorem dX11_read_35 : decode cX11_read 35 = .ok (.bipush 10, 2) := by decide +kernel
theorem dX11_read_37 : decode cX11_read 37 = .ok (.if_icmp .ne 35, 3) := by decide +kernel
theorem dX11_read_40 : decode cX11_read 40 = .ok (.aload_n 0, 1) := by decide +kernel
theorem dX11_read_41 : decode cX11_read 41 = .ok (.getfield 26, 3) := by decide +kernel
theorem dX11_read_44 : decode cX11_read 44 = .ok (.bipush 40, 2) := by decide +kernel
theorem dX11_read_46 : decode cX11_read 46 = .ok (.if_icmp .ge 26, 3) := by decide +kernel
theorem dX11_read_49 : decode cX11_read 49 = .ok (.aload_n 0, 1) := by decide +kernel
theorem dX11_read_50 : decode cX11_read 50 = .ok (.getfield 15, 3) := by decide +kernel
theorem dX11_read_53 : decode cX11_read 53 = .ok (.aload_n 0, 1) := by decide +kernel
theorem dX11_read_54 : decode cX11_read 54 = .ok (.getfield 26, 3) := by decide +kernel
theorem dX11_read_57 : decode cX11_read 57 = .ok (.iconst 0, 1) := by decide +kernel
theorem dX11_read_58 : decode cX11_read 58 = .ok (.iastore, 1) := by decide +kernel
theorem dX11_read_59 : decode cX11_read 59 = .ok (.aload_n 0, 1) := by decide +kernel
theorem dX11_read_60 : decode cX11_read 60 = .ok (.dup, 1) := by decide +kernel
theorem dX11_read_61 : decode cX11_read 61 = .ok (.getfield 26, 3) := by decide +kernel
theorem dX11_read_64 : decode cX11_read 64 = .ok (.iconst 1, 1) := by decide +kernel
theorem dX11_read_65 : decode cX11_read 65 = .ok (.iadd, 1) := by decide +kernel
theorem dX11_read_66 : decode cX11_read 66 = .ok (.putfield 26, 3) := by decide +kernel
theorem dX11_read_69 : decode cX11_read 69 = .ok (.goto 46, 3) := by decide +kernel
theorem dX11_read_72 : decode cX11_read 72 = .ok (.aload_n 0, 1) := by decide +kernel
theorem dX11_read_73 : decode cX11_read 73 = .ok (.getfield 15, 3) := by decide +kernel
theorem dX11_read_76 : decode cX11_read 76 = .ok (.iload_n 3, 1) := by decide +kernel
theorem dX11_read_77 : decode cX11_read 77 = .ok (.iaload, 1) := by decide +kernel
theorem dX11_read_78 : decode cX11_read 78 = .ok (.bipush 60, 2) := by decide +kernel
theorem dX11_read_80 : decode cX11_read 80 = .ok (.if_icmp .ge 35, 3) := by decide +kernel
theorem dX11_read_83 : decode cX11_read 83 = .ok (.aload_n 0, 1) := by decide +kernel
theorem dX11_read_84 : decode cX11_read 84 = .ok (.getfield 9, 3) := by decide +kernel
theorem dX11_read_87 : decode cX11_read 87 = .ok (.iload_n 3, 1) := by decide +kernel
theorem dX11_read_88 : decode cX11_read 88 = .ok (.bipush 60, 2) := by decide +kernel
theorem dX11_read_90 : decode cX11_read 90 = .ok (.imul, 1) := by decide +kernel
theorem dX11_read_91 : decode cX11_read 91 = .ok (.aload_n 0, 1) := by decide +kernel
theorem dX11_read_92 : decode cX11_read 92 = .ok (.getfield 15, 3) := by decide +kernel
theorem dX11_read_95 : decode cX11_read 95 = .ok (.iload_n 3, 1) := by decide +kernel
theorem dX11_read_96 : decode cX11_read 96 = .ok (.iaload, 1) := by decide +kernel
theorem dX11_read_97 : decode cX11_read 97 = .ok (.iadd, 1) := by decide +kernel
theorem dX11_read_98 : decode cX11_read 98 = .ok (.aload_n 1, 1) := by decide +kernel
theorem dX11_read_99 : decode cX11_read 99 = .ok (.getfield 58, 3) := by decide +kernel
theorem dX11_read_102 : decode cX11_read 102 = .ok (.iload_n 2, 1) := by decide +kernel
theorem dX11_read_103 : decode cX11_read 103 = .ok (.caload, 1) := by decide +kernel
theorem dX11_read_104 : decode cX11_read 104 = .ok (.castore, 1) := by decide +kernel
theorem dX11_read_105 : decode cX11_read 105 = .ok (.aload_n 0, 1) := by decide +kernel
theorem dX11_read_106 : decode cX11_read 106 = .ok (.getfield 15, 3) := by decide +kernel
theorem dX11_read_109 : decode cX11_read 109 = .ok (.iload_n 3, 1) := by decide +kernel
theorem dX11_read_110 : decode cX11_read 110 = .ok (.dup2, 1) := by decide +kernel
theorem dX11_read_111 : decode cX11_read 111 = .ok (.iaload, 1) := by decide +kernel
theorem dX11_read_112 : decode cX11_read 112 = .ok (.iconst 1, 1) := by decide +kernel
theorem dX11_read_113 : decode cX11_read 113 = .ok (.iadd, 1) := by decide +kernel
theorem dX11_read_114 : decode cX11_read 114 = .ok (.iastore, 1) := by decide +kernel
theorem dX11_read_115 : decode cX11_read 115 = .ok (.iinc 2 1, 3) := by decide +kernel
theorem dX11_read_118 : decode cX11_read 118 = .ok (.goto (-104), 3) := by decide +kernel
theorem dX11_read_121 : decode cX11_read 121 = .ok (.iconst 0, 1) := by decide +kernel
theorem dX11_read_122 : decode cX11_read 122 = .ok (.istore_n 2, 1) := by decide +kernel
theorem dX11_read_123 : decode cX11_read 123 = .ok (.iload_n 2, 1) := by decide +kernel
theorem dX11_read_124 : decode cX11_read 124 = .ok (.aload_n 0, 1) := by decide +kernel
theorem dX11_read_125 : decode cX11_read 125 = .ok (.getfield 26, 3) := by decide +kernel
theorem dX11_read_128 : decode cX11_read 128 = .ok (.if_icmp .ge 29, 3) := by decide +kernel
theorem dX11_read_131 : decode cX11_read 131 = .ok (.aload_n 0, 1) := by decide +kernel
theorem dX11_read_132 : decode cX11_read 132 = .ok (.dup, 1) := by decide +kernel
theorem dX11_read_133 : decode cX11_read 133 = .ok (.getfield 22, 3) := by decide +kernel
theorem dX11_read_136 : decode cX11_read 136 = .ok (.iconst 1, 1) := by decide +kernel
theorem dX11_read_137 : decode cX11_read 137 = .ok (.iadd, 1) := by decide +kernel
theorem dX11_read_138 : decode cX11_read 138 = .ok (.putfield 22, 3) := by decide +kernel
theorem dX11_read_141 : decode cX11_read 141 = .ok (.aload_n 0, 1) := by decide +kernel
theorem dX11_read_142 : decode cX11_read 142 = .ok (.getfield 19, 3) := by decide +kernel
theorem dX11_read_145 : decode cX11_read 145 = .ok (.iload_n 2, 1) := by decide +kernel
theorem dX11_read_146 : decode cX11_read 146 = .ok (.aload_n 0, 1) := by decide +kernel
theorem dX11_read_147 : decode cX11_read 147 = .ok (.getfield 22, 3) := by decide +kernel
theorem dX11_read_150 : decode cX11_read 150 = .ok (.iastore, 1) := by decide +kernel
theorem dX11_read_151 : decode cX11_read 151 = .ok (.iinc 2 1, 3) := by decide +kernel
theorem dX11_read_154 : decode cX11_read 154 = .ok (.goto (-31), 3) := by decide +kernel
theorem dX11_read_157 : decode cX11_read 157 = .ok (.return_, 1) := by decide +kernel
theorem dX11_openLines_0 : decode cX11_openLines 0 = .ok (.iload_n 1, 1) := by decide +kernel
theorem dX11_openLines_1 : decode cX11_openLines 1 = .ok (.ifCond .lt 27, 3) := by decide +kernel
theorem dX11_openLines_4 : decode cX11_openLines 4 = .ok (.iload_n 1, 1) := by decide +kernel
theorem dX11_openLines_5 : decode cX11_openLines 5 = .ok (.aload_n 0, 1) := by decide +kernel
theorem dX11_openLines_6 : decode cX11_openLines 6 = .ok (.getfield 26, 3) := by decide +kernel
theorem dX11_openLines_9 : decode cX11_openLines 9 = .ok (.if_icmp .gt 19, 3) := by decide +kernel
theorem dX11_openLines_12 : decode cX11_openLines 12 = .ok (.iload_n 2, 1) := by decide +kernel
theorem dX11_openLines_13 : decode cX11_openLines 13 = .ok (.iconst 1, 1) := by decide +kernel
theorem dX11_openLines_14 : decode cX11_openLines 14 = .ok (.if_icmp .lt 14, 3) := by decide +kernel
theorem dX11_openLines_17 : decode cX11_openLines 17 = .ok (.aload_n 0, 1) := by decide +kernel
theorem dX11_openLines_18 : decode cX11_openLines 18 = .ok (.getfield 26, 3) := by decide +kernel
theorem dX11_openLines_21 : decode cX11_openLines 21 = .ok (.iload_n 2, 1) := by decide +kernel
theorem dX11_openLines_22 : decode cX11_openLines 22 = .ok (.iadd, 1) := by decide +kernel
theorem dX11_openLines_23 : decode cX11_openLines 23 = .ok (.bipush 40, 2) := by decide +kernel
theorem dX11_openLines_25 : decode cX11_openLines 25 = .ok (.if_icmp .le 4, 3) := by decide +kernel
theorem dX11_openLines_28 : decode cX11_openLines 28 = .ok (.return_, 1) := by decide +kernel
theorem dX11_openLines_29 : decode cX11_openLines 29 = .ok (.aload_n 0, 1) := by decide +kernel
theorem dX11_openLines_30 : decode cX11_openLines 30 = .ok (.getfield 26, 3) := by decide +kernel
theorem dX11_openLines_33 : decode cX11_openLines 33 = .ok (.iload_n 1, 1) := by decide +kernel
theorem dX11_openLines_34 : decode cX11_openLines 34 = .ok (.isub, 1) := by decide +kernel
theorem dX11_openLines_35 : decode cX11_openLines 35 = .ok (.istore_n 3, 1) := by decide +kernel
theorem dX11_openLines_36 : decode cX11_openLines 36 = .ok (.aload_n 0, 1) := by decide +kernel
theorem dX11_openLines_37 : decode cX11_openLines 37 = .ok (.getfield 9, 3) := by decide +kernel
theorem dX11_openLines_40 : decode cX11_openLines 40 = .ok (.iload_n 1, 1) := by decide +kernel
theorem dX11_openLines_41 : decode cX11_openLines 41 = .ok (.bipush 60, 2) := by decide +kernel
theorem dX11_openLines_43 : decode cX11_openLines 43 = .ok (.imul, 1) := by decide +kernel
theorem dX11_openLines_44 : decode cX11_openLines 44 = .ok (.aload_n 0, 1) := by decide +kernel
theorem dX11_openLines_45 : decode cX11_openLines 45 = .ok (.getfield 9, 3) := by decide +kernel
theorem dX11_openLines_48 : decode cX11_openLines 48 = .ok (.iload_n 1, 1) := by decide +kernel
theorem dX11_openLines_49 : decode cX11_openLines 49 = .ok (.iload_n 2, 1) := by decide +kernel
theorem dX11_openLines_50 : decode cX11_openLines 50 = .ok (.iadd, 1) := by decide +kernel
theorem dX11_openLines_51 : decode cX11_openLines 51 = .ok (.bipush 60, 2) := by decide +kernel
theorem dX11_openLines_53 : decode cX11_openLines 53 = .ok (.imul, 1) := by decide +kernel
theorem dX11_openLines_54 : decode cX11_openLines 54 = .ok (.iload_n 3, 1) := by decide +kernel
theorem dX11_openLines_55 : decode cX11_openLines 55 = .ok (.bipush 60, 2) := by decide +kernel
theorem dX11_openLines_57 : decode cX11_openLines 57 = .ok (.imul, 1) := by decide +kernel
theorem dX11_openLines_58 : decode cX11_openLines 58 = .ok (.invokestatic 47, 3) := by decide +kernel
theorem dX11_openLines_61 : decode cX11_openLines 61 = .ok (.aload_n 0, 1) := by decide +kernel
theorem dX11_openLines_62 : decode cX11_openLines 62 = .ok (.getfield 15, 3) := by decide +kernel
theorem dX11_openLines_65 : decode cX11_openLines 65 = .ok (.iload_n 1, 1) := by decide +kernel
theorem dX11_openLines_66 : decode cX11_openLines 66 = .ok (.aload_n 0, 1) := by decide +kernel
theorem dX11_openLines_67 : decode cX11_openLines 67 = .ok (.getfield 15, 3) := by decide +kernel
theorem dX11_openLines_70 : decode cX11_openLines 70 = .ok (.iload_n 1, 1) := by decide +kernel
theorem dX11_openLines_71 : decode cX11_openLines 71 = .ok (.iload_n 2, 1) := by decide +kernel
theorem dX11_openLines_72 : decode cX11_openLines 72 = .ok (.iadd, 1) := by decide +kernel
theorem dX11_openLines_73 : decode cX11_openLines 73 = .ok (.iload_n 3, 1) := by decide +kernel
theorem dX11_openLines_74 : decode cX11_openLines 74 = .ok (.invokestatic 47, 3) := by decide +kernel
theorem dX11_openLines_77 : decode cX11_openLines 77 = .ok (.aload_n 0, 1) := by decide +kernel
theorem dX11_openLines_78 : decode cX11_openLines 78 = .ok (.getfield 19, 3) := by decide +kernel
theorem dX11_openLines_81 : decode cX11_openLines 81 = .ok (.iload_n 1, 1) := by decide +kernel
theorem dX11_openLines_82 : decode cX11_openLines 82 = .ok (.aload_n 0, 1) := by decide +kernel
theorem dX11_openLines_83 : decode cX11_openLines 83 = .ok (.getfield 19, 3) := by decide +kernel
theorem dX11_openLines_86 : decode cX11_openLines 86 = .ok (.iload_n 1, 1) := by decide +kernel
theorem dX11_openLines_87 : decode cX11_openLines 87 = .ok (.iload_n 2, 1) := by decide +kernel
theorem dX11_openLines_88 : decode cX11_openLines 88 = .ok (.iadd, 1) := by decide +kernel
theorem dX11_openLines_89 : decode cX11_openLines 89 = .ok (.iload_n 3, 1) := by decide +kernel
theorem dX11_openLines_90 : decode cX11_openLines 90 = .ok (.invokestatic 47, 3) := by decide +kernel
theorem dX11_openLines_93 : decode cX11_openLines 93 = .ok (.iload_n 1, 1) := by decide +kernel
theorem dX11_openLines_94 : decode cX11_openLines 94 = .ok (.istore 4, 2) := by decide +kernel
theorem dX11_openLines_96 : decode cX11_openLines 96 = .ok (.iload 4, 2) := by decide +kernel
theorem dX11_openLines_98 : decode cX11_openLines 98 = .ok (.iload_n 1, 1) := by decide +kernel
theorem dX11_openLines_99 : decode cX11_openLines 99 = .ok (.iload_n 2, 1) := by decide +kernel
theorem dX11_openLines_100 : decode cX11_openLines 100 = .ok (.iadd, 1) := by decide +kernel
theorem dX11_openLines_101 : decode cX11_openLines 101 = .ok (.if_icmp .ge 38, 3) := by decide +kernel
theorem dX11_openLines_104 : decode cX11_openLines 104 = .ok (.aload_n 0, 1) := by decide +kernel
theorem dX11_openLines_105 : decode cX11_openLines 105 = .ok (.getfield 15, 3) := by decide +kernel
theorem dX11_openLines_108 : decode cX11_openLines 108 = .ok (.iload 4, 2) := by decide +kernel
theorem dX11_openLines_110 : decode cX11_openLines 110 = .ok (.iconst 0, 1) := by decide +kernel
theorem dX11_openLines_111 : decode cX11_openLines 111 = .ok (.iastore, 1) := by decide +kernel
theorem dX11_openLines_112 : decode cX11_openLines 112 = .ok (.aload_n 0, 1) := by decide +kernel
theorem dX11_openLines_113 : decode cX11_openLines 113 = .ok (.dup, 1) := by decide +kernel
theorem dX11_openLines_114 : decode cX11_openLines 114 = .ok (.getfield 22, 3) := by decide +kernel
theorem dX11_openLines_117 : decode cX11_openLines 117 = .ok (.iconst 1, 1) := by decide +kernel
theorem dX11_openLines_118 : decode cX11_openLines 118 = .ok (.iadd, 1) := by decide +kernel
theorem dX11_openLines_119 : decode cX11_openLines 119 = .ok (.putfield 22, 3) := by decide +kernel
theorem dX11_openLines_122 : decode cX11_openLines 122 = .ok (.aload_n 0, 1) := by decide +kernel
theorem dX11_openLines_123 : decode cX11_openLines 123 = .ok (.getfield 19, 3) := by decide +kernel
theorem dX11_openLines_126 : decode cX11_openLines 126 = .ok (.iload 4, 2) := by decide +kernel
theorem dX11_openLines_128 : decode cX11_openLines 128 = .ok (.aload_n 0, 1) := by decide +kernel
theorem dX11_openLines_129 : decode cX11_openLines 129 = .ok (.getfield 22, 3) := by decide +kernel
theorem dX11_openLines_132 : decode cX11_openLines 132 = .ok (.iastore, 1) := by decide +kernel
theorem dX11_openLines_133 : decode cX11_openLines 133 = .ok (.iinc 4 1, 3) := by decide +kernel
theorem dX11_openLines_136 : decode cX11_openLines 136 = .ok (.goto (-40), 3) := by decide +kernel
theorem dX11_openLines_139 : decode cX11_openLines 139 = .ok (.aload_n 0, 1) := by decide +kernel
theorem dX11_openLines_140 : decode cX11_openLines 140 = .ok (.dup, 1) := by decide +kernel
theorem dX11_openLines_141 : decode cX11_openLines 141 = .ok (.getfield 26, 3) := by decide +kernel
theorem dX11_openLines_144 : decode cX11_openLines 144 = .ok (.iload_n 2, 1) := by decide +kernel
theorem dX11_openLines_145 : decode cX11_openLines 145 = .ok (.iadd, 1) := by decide +kernel
theorem dX11_openLines_146 : decode cX11_openLines 146 = .ok (.putfield 26, 3) := by decide +kernel
theorem dX11_openLines_149 : decode cX11_openLines 149 = .ok (.aload_n 0, 1) := by decide +kernel
theorem dX11_openLines_150 : decode cX11_openLines 150 = .ok (.getfield 29, 3) := by decide +kernel
theorem dX11_openLines_153 : decode cX11_openLines 153 = .ok (.ifnull 12, 3) := by decide +kernel
theorem dX11_openLines_156 : decode cX11_openLines 156 = .ok (.aload_n 0, 1) := by decide +kernel
theorem dX11_openLines_157 : decode cX11_openLines 157 = .ok (.getfield 29, 3) := by decide +kernel
theorem dX11_openLines_160 : decode cX11_openLines 160 = .ok (.iload_n 1, 1) := by decide +kernel
theorem dX11_openLines_161 : decode cX11_openLines 161 = .ok (.iload_n 2, 1) := by decide +kernel
theorem dX11_openLines_162 : decode cX11_openLines 162 = .ok (.invokevirtual 61, 3) := by decide +kernel
theorem dX11_openLines_165 : decode cX11_openLines 165 = .ok (.return_, 1) := by decide +kernel
theorem dX11_dropLines_0 : decode cX11_dropLines 0 = .ok (.iload_n 1, 1) := by decide +kernel
theorem dX11_dropLines_1 : decode cX11_dropLines 1 = .ok (.ifCond .lt 18, 3) := by decide +kernel
theorem dX11_dropLines_4 : decode cX11_dropLines 4 = .ok (.iload_n 2, 1) := by decide +kernel
theorem dX11_dropLines_5 : decode cX11_dropLines 5 = .ok (.iconst 1, 1) := by decide +kernel
theorem dX11_dropLines_6 : decode cX11_dropLines 6 = .ok (.if_icmp .lt 13, 3) := by decide +kernel
theorem dX11_dropLines_9 : decode cX11_dropLines 9 = .ok (.iload_n 1, 1) := by decide +kernel
theorem dX11_dropLines_10 : decode cX11_dropLines 10 = .ok (.iload_n 2, 1) := by decide +kernel
theorem dX11_dropLines_11 : decode cX11_dropLines 11 = .ok (.iadd, 1) := by decide +kernel
theorem dX11_dropLines_12 : decode cX11_dropLines 12 = .ok (.aload_n 0, 1) := by decide +kernel
theorem dX11_dropLines_13 : decode cX11_dropLines 13 = .ok (.getfield 26, 3) := by decide +kernel
theorem dX11_dropLines_16 : decode cX11_dropLines 16 = .ok (.if_icmp .le 4, 3) := by decide +kernel
theorem dX11_dropLines_19 : decode cX11_dropLines 19 = .ok (.return_, 1) := by decide +kernel
theorem dX11_dropLines_20 : decode cX11_dropLines 20 = .ok (.aload_n 0, 1) := by decide +kernel
theorem dX11_dropLines_21 : decode cX11_dropLines 21 = .ok (.getfield 26, 3) := by decide +kernel
theorem dX11_dropLines_24 : decode cX11_dropLines 24 = .ok (.iload_n 1, 1) := by decide +kernel
theorem dX11_dropLines_25 : decode cX11_dropLines 25 = .ok (.isub, 1) := by decide +kernel
theorem dX11_dropLines_26 : decode cX11_dropLines 26 = .ok (.iload_n 2, 1) := by decide +kernel
theorem dX11_dropLines_27 : decode cX11_dropLines 27 = .ok (.isub, 1) := by decide +kernel
theorem dX11_dropLines_28 : decode cX11_dropLines 28 = .ok (.istore_n 3, 1) := by decide +kernel
theorem dX11_dropLines_29 : decode cX11_dropLines 29 = .ok (.aload_n 0, 1) := by decide +kernel
theorem dX11_dropLines_30 : decode cX11_dropLines 30 = .ok (.getfield 9, 3) := by decide +kernel
theorem dX11_dropLines_33 : decode cX11_dropLines 33 = .ok (.iload_n 1, 1) := by decide +kernel
theorem dX11_dropLines_34 : decode cX11_dropLines 34 = .ok (.iload_n 2, 1) := by decide +kernel
theorem dX11_dropLines_35 : decode cX11_dropLines 35 = .ok (.iadd, 1) := by decide +kernel
theorem dX11_dropLines_36 : decode cX11_dropLines 36 = .ok (.bipush 60, 2) := by decide +kernel
theorem dX11_dropLines_38 : decode cX11_dropLines 38 = .ok (.imul, 1) := by decide +kernel
theorem dX11_dropLines_39 : decode cX11_dropLines 39 = .ok (.aload_n 0, 1) := by decide +kernel
theorem dX11_dropLines_40 : decode cX11_dropLines 40 = .ok (.getfield 9, 3) := by decide +kernel
theorem dX11_dropLines_43 : decode cX11_dropLines 43 = .ok (.iload_n 1, 1) := by decide +kernel
theorem dX11_dropLines_44 : decode cX11_dropLines 44 = .ok (.bipush 60, 2) := by decide +kernel
theorem dX11_dropLines_46 : decode cX11_dropLines 46 = .ok (.imul, 1) := by decide +kernel
theorem dX11_dropLines_47 : decode cX11_dropLines 47 = .ok (.iload_n 3, 1) := by decide +kernel
theorem dX11_dropLines_48 : decode cX11_dropLines 48 = .ok (.bipush 60, 2) := by decide +kernel
theorem dX11_dropLines_50 : decode cX11_dropLines 50 = .ok (.imul, 1) := by decide +kernel
theorem dX11_dropLines_51 : decode cX11_dropLines 51 = .ok (.invokestatic 47, 3) := by decide +kernel
theorem dX11_dropLines_54 : decode cX11_dropLines 54 = .ok (.aload_n 0, 1) := by decide +kernel
theorem dX11_dropLines_55 : decode cX11_dropLines 55 = .ok (.getfield 15, 3) := by decide +kernel
theorem dX11_dropLines_58 : decode cX11_dropLines 58 = .ok (.iload_n 1, 1) := by decide +kernel
theorem dX11_dropLines_59 : decode cX11_dropLines 59 = .ok (.iload_n 2, 1) := by decide +kernel
theorem dX11_dropLines_60 : decode cX11_dropLines 60 = .ok (.iadd, 1) := by decide +kernel
theorem dX11_dropLines_61 : decode cX11_dropLines 61 = .ok (.aload_n 0, 1) := by decide +kernel
theorem dX11_dropLines_62 : decode cX11_dropLines 62 = .ok (.getfield 15, 3) := by decide +kernel
theorem dX11_dropLines_65 : decode cX11_dropLines 65 = .ok (.iload_n 1, 1) := by decide +kernel
theorem dX11_dropLines_66 : decode cX11_dropLines 66 = .ok (.iload_n 3, 1) := by decide +kernel
theorem dX11_dropLines_67 : decode cX11_dropLines 67 = .ok (.invokestatic 47, 3) := by decide +kernel
theorem dX11_dropLines_70 : decode cX11_dropLines 70 = .ok (.aload_n 0, 1) := by decide +kernel
theorem dX11_dropLines_71 : decode cX11_dropLines 71 = .ok (.getfield 19, 3) := by decide +kernel
theorem dX11_dropLines_74 : decode cX11_dropLines 74 = .ok (.iload_n 1, 1) := by decide +kernel
theorem dX11_dropLines_75 : decode cX11_dropLines 75 = .ok (.iload_n 2, 1) := by decide +kernel
theorem dX11_dropLines_76 : decode cX11_dropLines 76 = .ok (.iadd, 1) := by decide +kernel
theorem dX11_dropLines_77 : decode cX11_dropLines 77 = .ok (.aload_n 0, 1) := by decide +kernel
theorem dX11_dropLines_78 : decode cX11_dropLines 78 = .ok (.getfield 19, 3) := by decide +kernel
theorem dX11_dropLines_81 : decode cX11_dropLines 81 = .ok (.iload_n 1, 1) := by decide +kernel
theorem dX11_dropLines_82 : decode cX11_dropLines 82 = .ok (.iload_n 3, 1) := by decide +kernel
theorem dX11_dropLines_83 : decode cX11_dropLines 83 = .ok (.invokestatic 47, 3) := by decide +kernel
theorem dX11_dropLines_86 : decode cX11_dropLines 86 = .ok (.aload_n 0, 1) := by decide +kernel
theorem dX11_dropLines_87 : decode cX11_dropLines 87 = .ok (.dup, 1) := by decide +kernel
theorem dX11_dropLines_88 : decode cX11_dropLines 88 = .ok (.getfield 26, 3) := by decide +kernel
theorem dX11_dropLines_91 : decode cX11_dropLines 91 = .ok (.iload_n 2, 1) := by decide +kernel
theorem dX11_dropLines_92 : decode cX11_dropLines 92 = .ok (.isub, 1) := by decide +kernel
theorem dX11_dropLines_93 : decode cX11_dropLines 93 = .ok (.putfield 26, 3) := by decide +kernel
theorem dX11_dropLines_96 : decode cX11_dropLines 96 = .ok (.aload_n 0, 1) := by decide +kernel
theorem dX11_dropLines_97 : decode cX11_dropLines 97 = .ok (.getfield 26, 3) := by decide +kernel
theorem dX11_dropLines_100 : decode cX11_dropLines 100 = .ok (.ifCond .ne 35, 3) := by decide +kernel
theorem dX11_dropLines_103 : decode cX11_dropLines 103 = .ok (.aload_n 0, 1) := by decide +kernel
theorem dX11_dropLines_104 : decode cX11_dropLines 104 = .ok (.iconst 1, 1) := by decide +kernel
theorem dX11_dropLines_105 : decode cX11_dropLines 105 = .ok (.putfield 26, 3) := by decide +kernel
theorem dX11_dropLines_108 : decode cX11_dropLines 108 = .ok (.aload_n 0, 1) := by decide +kernel
theorem dX11_dropLines_109 : decode cX11_dropLines 109 = .ok (.getfield 15, 3) := by decide +kernel
theorem dX11_dropLines_112 : decode cX11_dropLines 112 = .ok (.iconst 0, 1) := by decide +kernel
theorem dX11_dropLines_113 : decode cX11_dropLines 113 = .ok (.iconst 0, 1) := by decide +kernel
theorem dX11_dropLines_114 : decode cX11_dropLines 114 = .ok (.iastore, 1) := by decide +kernel
theorem dX11_dropLines_115 : decode cX11_dropLines 115 = .ok (.aload_n 0, 1) := by decide +kernel
theorem dX11_dropLines_116 : decode cX11_dropLines 116 = .ok (.dup, 1) := by decide +kernel
theorem dX11_dropLines_117 : decode cX11_dropLines 117 = .ok (.getfield 22, 3) := by decide +kernel
theorem dX11_dropLines_120 : decode cX11_dropLines 120 = .ok (.iconst 1, 1) := by decide +kernel
theorem dX11_dropLines_121 : decode cX11_dropLines 121 = .ok (.iadd, 1) := by decide +kernel
theorem dX11_dropLines_122 : decode cX11_dropLines 122 = .ok (.putfield 22, 3) := by decide +kernel
theorem dX11_dropLines_125 : decode cX11_dropLines 125 = .ok (.aload_n 0, 1) := by decide +kernel
theorem dX11_dropLines_126 : decode cX11_dropLines 126 = .ok (.getfield 19, 3) := by decide +kernel
theorem dX11_dropLines_129 : decode cX11_dropLines 129 = .ok (.iconst 0, 1) := by decide +kernel
theorem dX11_dropLines_130 : decode cX11_dropLines 130 = .ok (.aload_n 0, 1) := by decide +kernel
theorem dX11_dropLines_131 : decode cX11_dropLines 131 = .ok (.getfield 22, 3) := by decide +kernel
theorem dX11_dropLines_134 : decode cX11_dropLines 134 = .ok (.iastore, 1) := by decide +kernel
theorem dX11_dropLines_135 : decode cX11_dropLines 135 = .ok (.aload_n 0, 1) := by decide +kernel
theorem dX11_dropLines_136 : decode cX11_dropLines 136 = .ok (.getfield 29, 3) := by decide +kernel
theorem dX11_dropLines_139 : decode cX11_dropLines 139 = .ok (.ifnull 16, 3) := by decide +kernel
theorem dX11_dropLines_142 : decode cX11_dropLines 142 = .ok (.aload_n 0, 1) := by decide +kernel
theorem dX11_dropLines_143 : decode cX11_dropLines 143 = .ok (.getfield 29, 3) := by decide +kernel
theorem dX11_dropLines_146 : decode cX11_dropLines 146 = .ok (.iload_n 1, 1) := by decide +kernel
theorem dX11_dropLines_147 : decode cX11_dropLines 147 = .ok (.iload_n 2, 1) := by decide +kernel
theorem dX11_dropLines_148 : decode cX11_dropLines 148 = .ok (.aload_n 0, 1) := by decide +kernel
theorem dX11_dropLines_149 : decode cX11_dropLines 149 = .ok (.getfield 26, 3) := by decide +kernel
theorem dX11_dropLines_152 : decode cX11_dropLines 152 = .ok (.invokevirtual 67, 3) := by decide +kernel
theorem dX11_dropLines_155 : decode cX11_dropLines 155 = .ok (.return_, 1) := by decide +kernel
theorem dX11_renewLines_0 : decode cX11_renewLines 0 = .ok (.iload_n 1, 1) := by decide +kernel
theorem dX11_renewLines_1 : decode cX11_renewLines 1 = .ok (.ifCond .lt 18, 3) := by decide +kernel
theorem dX11_renewLines_4 : decode cX11_renewLines 4 = .ok (.iload_n 2, 1) := by decide +kernel
theorem dX11_renewLines_5 : decode cX11_renewLines 5 = .ok (.iconst 1, 1) := by decide +kernel
theorem dX11_renewLines_6 : decode cX11_renewLines 6 = .ok (.if_icmp .lt 13, 3) := by decide +kernel
theorem dX11_renewLines_9 : decode cX11_renewLines 9 = .ok (.iload_n 1, 1) := by decide +kernel
theorem dX11_renewLines_10 : decode cX11_renewLines 10 = .ok (.iload_n 2, 1) := by decide +kernel
theorem dX11_renewLines_11 : decode cX11_renewLines 11 = .ok (.iadd, 1) := by decide +kernel
theorem dX11_renewLines_12 : decode cX11_renewLines 12 = .ok (.aload_n 0, 1) := by decide +kernel
theorem dX11_renewLines_13 : decode cX11_renewLines 13 = .ok (.getfield 26, 3) := by decide +kernel
theorem dX11_renewLines_16 : decode cX11_renewLines 16 = .ok (.if_icmp .le 4, 3) := by decide +kernel
theorem dX11_renewLines_19 : decode cX11_renewLines 19 = .ok (.return_, 1) := by decide +kernel
theorem dX11_renewLines_20 : decode cX11_renewLines 20 = .ok (.iload_n 1, 1) := by decide +kernel
theorem dX11_renewLines_21 : decode cX11_renewLines 21 = .ok (.istore_n 3, 1) := by decide +kernel
theorem dX11_renewLines_22 : decode cX11_renewLines 22 = .ok (.iload_n 3, 1) := by decide +kernel
theorem dX11_renewLines_23 : decode cX11_renewLines 23 = .ok (.iload_n 1, 1) := by decide +kernel
theorem dX11_renewLines_24 : decode cX11_renewLines 24 = .ok (.iload_n 2, 1) := by decide +kernel
theorem dX11_renewLines_25 : decode cX11_renewLines 25 = .ok (.iadd, 1) := by decide +kernel
theorem dX11_renewLines_26 : decode cX11_renewLines 26 = .ok (.if_icmp .ge 29, 3) := by decide +kernel
theorem dX11_renewLines_29 : decode cX11_renewLines 29 = .ok (.aload_n 0, 1) := by decide +kernel
theorem dX11_renewLines_30 : decode cX11_renewLines 30 = .ok (.dup, 1) := by decide +kernel
theorem dX11_renewLines_31 : decode cX11_renewLines 31 = .ok (.getfield 22, 3) := by decide +kernel
theorem dX11_renewLines_34 : decode cX11_renewLines 34 = .ok (.iconst 1, 1) := by decide +kernel
theorem dX11_renewLines_35 : decode cX11_renewLines 35 = .ok (.iadd, 1) := by decide +kernel
theorem dX11_renewLines_36 : decode cX11_renewLines 36 = .ok (.putfield 22, 3) := by decide +kernel
theorem dX11_renewLines_39 : decode cX11_renewLines 39 = .ok (.aload_n 0, 1) := by decide +kernel
theorem dX11_renewLines_40 : decode cX11_renewLines 40 = .ok (.getfield 19, 3) := by decide +kernel
theorem dX11_renewLines_43 : decode cX11_renewLines 43 = .ok (.iload_n 3, 1) := by decide +kernel
theorem dX11_renewLines_44 : decode cX11_renewLines 44 = .ok (.aload_n 0, 1) := by decide +kernel
theorem dX11_renewLines_45 : decode cX11_renewLines 45 = .ok (.getfield 22, 3) := by decide +kernel
theorem dX11_renewLines_48 : decode cX11_renewLines 48 = .ok (.iastore, 1) := by decide +kernel
theorem dX11_renewLines_49 : decode cX11_renewLines 49 = .ok (.iinc 3 1, 3) := by decide +kernel
theorem dX11_renewLines_52 : decode cX11_renewLines 52 = .ok (.goto (-30), 3) := by decide +kernel
theorem dX11_renewLines_55 : decode cX11_renewLines 55 = .ok (.aload_n 0, 1) := by decide +kernel
theorem dX11_renewLines_56 : decode cX11_renewLines 56 = .ok (.getfield 29, 3) := by decide +kernel
theorem dX11_renewLines_59 : decode cX11_renewLines 59 = .ok (.ifnull 25, 3) := by decide +kernel
theorem dX11_renewLines_62 : decode cX11_renewLines 62 = .ok (.aload_n 0, 1) := by decide +kernel
theorem dX11_renewLines_63 : decode cX11_renewLines 63 = .ok (.getfield 29, 3) := by decide +kernel
theorem dX11_renewLines_66 : decode cX11_renewLines 66 = .ok (.iload_n 1, 1) := by decide +kernel
theorem dX11_renewLines_67 : decode cX11_renewLines 67 = .ok (.iload_n 2, 1) := by decide +kernel
theorem dX11_renewLines_68 : decode cX11_renewLines 68 = .ok (.aload_n 0, 1) := by decide +kernel
theorem dX11_renewLines_69 : decode cX11_renewLines 69 = .ok (.getfield 26, 3) := by decide +kernel
theorem dX11_renewLines_72 : decode cX11_renewLines 72 = .ok (.invokevirtual 67, 3) := by decide +kernel
theorem dX11_renewLines_75 : decode cX11_renewLines 75 = .ok (.aload_n 0, 1) := by decide +kernel
theorem dX11_renewLines_76 : decode cX11_renewLines 76 = .ok (.getfield 29, 3) := by decide +kernel
theorem dX11_renewLines_79 : decode cX11_renewLines 79 = .ok (.iload_n 1, 1) := by decide +kernel
theorem dX11_renewLines_80 : decode cX11_renewLines 80 = .ok (.iload_n 2, 1) := by decide +kernel
theorem dX11_renewLines_81 : decode cX11_renewLines 81 = .ok (.invokevirtual 61, 3) := by decide +kernel
theorem dX11_renewLines_84 : decode cX11_renewLines 84 = .ok (.return_, 1) := by decide +kernel
theorem dX11_clearLine_0 : decode cX11_clearLine 0 = .ok (.iload_n 1, 1) := by decide +kernel
theorem dX11_clearLine_1 : decode cX11_clearLine 1 = .ok (.ifCond .lt 18, 3) := by decide +kernel
theorem dX11_clearLine_4 : decode cX11_clearLine 4 = .ok (.iload_n 1, 1) := by decide +kernel
theorem dX11_clearLine_5 : decode cX11_clearLine 5 = .ok (.aload_n 0, 1) := by decide +kernel
theorem dX11_clearLine_6 : decode cX11_clearLine 6 = .ok (.getfield 26, 3) := by decide +kernel
theorem dX11_clearLine_9 : decode cX11_clearLine 9 = .ok (.if_icmp .ge 10, 3) := by decide +kernel
theorem dX11_clearLine_12 : decode cX11_clearLine 12 = .ok (.aload_n 0, 1) := by decide +kernel
theorem dX11_clearLine_13 : decode cX11_clearLine 13 = .ok (.getfield 15, 3) := by decide +kernel
theorem dX11_clearLine_16 : decode cX11_clearLine 16 = .ok (.iload_n 1, 1) := by decide +kernel
theorem dX11_clearLine_17 : decode cX11_clearLine 17 = .ok (.iconst 0, 1) := by decide +kernel
theorem dX11_clearLine_18 : decode cX11_clearLine 18 = .ok (.iastore, 1) := by decide +kernel
theorem dX11_clearLine_19 : decode cX11_clearLine 19 = .ok (.return_, 1) := by decide +kernel
theorem dX11_copyLine_0 : decode cX11_copyLine 0 = .ok (.iload_n 1, 1) := by decide +kernel
theorem dX11_copyLine_1 : decode cX11_copyLine 1 = .ok (.ifCond .lt 56, 3) := by decide +kernel
theorem dX11_copyLine_4 : decode cX11_copyLine 4 = .ok (.iload_n 1, 1) := by decide +kernel
theorem dX11_copyLine_5 : decode cX11_copyLine 5 = .ok (.aload_n 0, 1) := by decide +kernel
theorem dX11_copyLine_6 : decode cX11_copyLine 6 = .ok (.getfield 26, 3) := by decide +kernel
theorem dX11_copyLine_9 : decode cX11_copyLine 9 = .ok (.if_icmp .ge 48, 3) := by decide +kernel
theorem dX11_copyLine_12 : decode cX11_copyLine 12 = .ok (.iload_n 3, 1) := by decide +kernel
theorem dX11_copyLine_13 : decode cX11_copyLine 13 = .ok (.ifCond .lt 44, 3) := by decide +kernel
theorem dX11_copyLine_16 : decode cX11_copyLine 16 = .ok (.iload_n 3, 1) := by decide +kernel
theorem dX11_copyLine_17 : decode cX11_copyLine 17 = .ok (.aload_n 2, 1) := by decide +kernel
theorem dX11_copyLine_18 : decode cX11_copyLine 18 = .ok (.getfield 26, 3) := by decide +kernel
theorem dX11_copyLine_21 : decode cX11_copyLine 21 = .ok (.if_icmp .ge 36, 3) := by decide +kernel
theorem dX11_copyLine_24 : decode cX11_copyLine 24 = .ok (.aload_n 2, 1) := by decide +kernel
theorem dX11_copyLine_25 : decode cX11_copyLine 25 = .ok (.getfield 9, 3) := by decide +kernel
theorem dX11_copyLine_28 : decode cX11_copyLine 28 = .ok (.iload_n 3, 1) := by decide +kernel
theorem dX11_copyLine_29 : decode cX11_copyLine 29 = .ok (.bipush 60, 2) := by decide +kernel
theorem dX11_copyLine_31 : decode cX11_copyLine 31 = .ok (.imul, 1) := by decide +kernel
theorem dX11_copyLine_32 : decode cX11_copyLine 32 = .ok (.aload_n 0, 1) := by decide +kernel
theorem dX11_copyLine_33 : decode cX11_copyLine 33 = .ok (.getfield 9, 3) := by decide +kernel
theorem dX11_copyLine_36 : decode cX11_copyLine 36 = .ok (.iload_n 1, 1) := by decide +kernel
theorem dX11_copyLine_37 : decode cX11_copyLine 37 = .ok (.bipush 60, 2) := by decide +kernel
theorem dX11_copyLine_39 : decode cX11_copyLine 39 = .ok (.imul, 1) := by decide +kernel
theorem dX11_copyLine_40 : decode cX11_copyLine 40 = .ok (.bipush 60, 2) := by decide +kernel
theorem dX11_copyLine_42 : decode cX11_copyLine 42 = .ok (.invokestatic 47, 3) := by decide +kernel
theorem dX11_copyLine_45 : decode cX11_copyLine 45 = .ok (.aload_n 0, 1) := by decide +kernel
theorem dX11_copyLine_46 : decode cX11_copyLine 46 = .ok (.getfield 15, 3) := by decide +kernel
theorem dX11_copyLine_49 : decode cX11_copyLine 49 = .ok (.iload_n 1, 1) := by decide +kernel
theorem dX11_copyLine_50 : decode cX11_copyLine 50 = .ok (.aload_n 2, 1) := by decide +kernel
theorem dX11_copyLine_51 : decode cX11_copyLine 51 = .ok (.getfield 15, 3) := by decide +kernel
theorem dX11_copyLine_54 : decode cX11_copyLine 54 = .ok (.iload_n 3, 1) := by decide +kernel
theorem dX11_copyLine_55 : decode cX11_copyLine 55 = .ok (.iaload, 1) := by decide +kernel
theorem dX11_copyLine_56 : decode cX11_copyLine 56 = .ok (.iastore, 1) := by decide +kernel
theorem dX11_copyLine_57 : decode cX11_copyLine 57 = .ok (.return_, 1) := by decide +kernel
theorem dX11_cut_0 : decode cX11_cut 0 = .ok (.iload_n 1, 1) := by decide +kernel
theorem dX11_cut_1 : decode cX11_cut 1 = .ok (.ifCond .lt 30, 3) := by decide +kernel
theorem dX11_cut_4 : decode cX11_cut 4 = .ok (.iload_n 1, 1) := by decide +kernel
theorem dX11_cut_5 : decode cX11_cut 5 = .ok (.aload_n 0, 1) := by decide +kernel
theorem dX11_cut_6 : decode cX11_cut 6 = .ok (.getfield 26, 3) := by decide +kernel
theorem dX11_cut_9 : decode cX11_cut 9 = .ok (.if_icmp .ge 22, 3) := by decide +kernel
theorem dX11_cut_12 : decode cX11_cut 12 = .ok (.iload_n 2, 1) := by decide +kernel
theorem dX11_cut_13 : decode cX11_cut 13 = .ok (.ifCond .lt 18, 3) := by decide +kernel
theorem dX11_cut_16 : decode cX11_cut 16 = .ok (.iload_n 3, 1) := by decide +kernel
theorem dX11_cut_17 : decode cX11_cut 17 = .ok (.aload_n 0, 1) := by decide +kernel
theorem dX11_cut_18 : decode cX11_cut 18 = .ok (.getfield 15, 3) := by decide +kernel
theorem dX11_cut_21 : decode cX11_cut 21 = .ok (.iload_n 1, 1) := by decide +kernel
theorem dX11_cut_22 : decode cX11_cut 22 = .ok (.iaload, 1) := by decide +kernel
theorem dX11_cut_23 : decode cX11_cut 23 = .ok (.if_icmp .gt 8, 3) := by decide +kernel
theorem dX11_cut_26 : decode cX11_cut 26 = .ok (.iload_n 2, 1) := by decide +kernel
theorem dX11_cut_27 : decode cX11_cut 27 = .ok (.iload_n 3, 1) := by decide +kernel
theorem dX11_cut_28 : decode cX11_cut 28 = .ok (.if_icmp .lt 4, 3) := by decide +kernel
theorem dX11_cut_31 : decode cX11_cut 31 = .ok (.return_, 1) := by decide +kernel
theorem dX11_cut_32 : decode cX11_cut 32 = .ok (.iload_n 1, 1) := by decide +kernel
theorem dX11_cut_33 : decode cX11_cut 33 = .ok (.bipush 60, 2) := by decide +kernel
theorem dX11_cut_35 : decode cX11_cut 35 = .ok (.imul, 1) := by decide +kernel
theorem dX11_cut_36 : decode cX11_cut 36 = .ok (.istore 4, 2) := by decide +kernel
theorem dX11_cut_38 : decode cX11_cut 38 = .ok (.aload_n 0, 1) := by decide +kernel
theorem dX11_cut_39 : decode cX11_cut 39 = .ok (.getfield 9, 3) := by decide +kernel
theorem dX11_cut_42 : decode cX11_cut 42 = .ok (.iload 4, 2) := by decide +kernel
theorem dX11_cut_44 : decode cX11_cut 44 = .ok (.iload_n 3, 1) := by decide +kernel
theorem dX11_cut_45 : decode cX11_cut 45 = .ok (.iadd, 1) := by decide +kernel
theorem dX11_cut_46 : decode cX11_cut 46 = .ok (.aload_n 0, 1) := by decide +kernel
theorem dX11_cut_47 : decode cX11_cut 47 = .ok (.getfield 9, 3) := by decide +kernel
theorem dX11_cut_50 : decode cX11_cut 50 = .ok (.iload 4, 2) := by decide +kernel
theorem dX11_cut_52 : decode cX11_cut 52 = .ok (.iload_n 2, 1) := by decide +kernel
theorem dX11_cut_53 : decode cX11_cut 53 = .ok (.iadd, 1) := by decide +kernel
theorem dX11_cut_54 : decode cX11_cut 54 = .ok (.aload_n 0, 1) := by decide +kernel
theorem dX11_cut_55 : decode cX11_cut 55 = .ok (.getfield 15, 3) := by decide +kernel
theorem dX11_cut_58 : decode cX11_cut 58 = .ok (.iload_n 1, 1) := by decide +kernel
theorem dX11_cut_59 : decode cX11_cut 59 = .ok (.iaload, 1) := by decide +kernel
theorem dX11_cut_60 : decode cX11_cut 60 = .ok (.iload_n 3, 1) := by decide +kernel
theorem dX11_cut_61 : decode cX11_cut 61 = .ok (.isub, 1) := by decide +kernel
theorem dX11_cut_62 : decode cX11_cut 62 = .ok (.invokestatic 47, 3) := by decide +kernel
theorem dX11_cut_65 : decode cX11_cut 65 = .ok (.aload_n 0, 1) := by decide +kernel
theorem dX11_cut_66 : decode cX11_cut 66 = .ok (.getfield 15, 3) := by decide +kernel
theorem dX11_cut_69 : decode cX11_cut 69 = .ok (.iload_n 1, 1) := by decide +kernel
theorem dX11_cut_70 : decode cX11_cut 70 = .ok (.dup2, 1) := by decide +kernel
theorem dX11_cut_71 : decode cX11_cut 71 = .ok (.iaload, 1) := by decide +kernel
theorem dX11_cut_72 : decode cX11_cut 72 = .ok (.iload_n 3, 1) := by decide +kernel
theorem dX11_cut_73 : decode cX11_cut 73 = .ok (.iload_n 2, 1) := by decide +kernel
theorem dX11_cut_74 : decode cX11_cut 74 = .ok (.isub, 1) := by decide +kernel
theorem dX11_cut_75 : decode cX11_cut 75 = .ok (.isub, 1) := by decide +kernel
theorem dX11_cut_76 : decode cX11_cut 76 = .ok (.iastore, 1) := by decide +kernel
theorem dX11_cut_77 : decode cX11_cut 77 = .ok (.return_, 1) := by decide +kernel
theorem dX11_moveTail_0 : decode cX11_moveTail 0 = .ok (.iload_n 1, 1) := by decide +kernel
theorem dX11_moveTail_1 : decode cX11_moveTail 1 = .ok (.ifCond .lt 42, 3) := by decide +kernel
theorem dX11_moveTail_4 : decode cX11_moveTail 4 = .ok (.iload_n 1, 1) := by decide +kernel
theorem dX11_moveTail_5 : decode cX11_moveTail 5 = .ok (.aload_n 0, 1) := by decide +kernel
theorem dX11_moveTail_6 : decode cX11_moveTail 6 = .ok (.getfield 26, 3) := by decide +kernel
theorem dX11_moveTail_9 : decode cX11_moveTail 9 = .ok (.if_icmp .ge 34, 3) := by decide +kernel
theorem dX11_moveTail_12 : decode cX11_moveTail 12 = .ok (.iload_n 3, 1) := by decide +kernel
theorem dX11_moveTail_13 : decode cX11_moveTail 13 = .ok (.ifCond .lt 30, 3) := by decide +kernel
theorem dX11_moveTail_16 : decode cX11_moveTail 16 = .ok (.iload_n 3, 1) := by decide +kernel
theorem dX11_moveTail_17 : decode cX11_moveTail 17 = .ok (.aload_n 0, 1) := by decide +kernel
theorem dX11_moveTail_18 : decode cX11_moveTail 18 = .ok (.getfield 26, 3) := by decide +kernel
theorem dX11_moveTail_21 : decode cX11_moveTail 21 = .ok (.if_icmp .ge 22, 3) := by decide +kernel
theorem dX11_moveTail_24 : decode cX11_moveTail 24 = .ok (.iload_n 1, 1) := by decide +kernel
theorem dX11_moveTail_25 : decode cX11_moveTail 25 = .ok (.iload_n 3, 1) := by decide +kernel
theorem dX11_moveTail_26 : decode cX11_moveTail 26 = .ok (.if_icmp .eq 17, 3) := by decide +kernel
theorem dX11_moveTail_29 : decode cX11_moveTail 29 = .ok (.iload_n 2, 1) := by decide +kernel
theorem dX11_moveTail_30 : decode cX11_moveTail 30 = .ok (.ifCond .lt 13, 3) := by decide +kernel
theorem dX11_moveTail_33 : decode cX11_moveTail 33 = .ok (.iload_n 2, 1) := by decide +kernel
theorem dX11_moveTail_34 : decode cX11_moveTail 34 = .ok (.aload_n 0, 1) := by decide +kernel
theorem dX11_moveTail_35 : decode cX11_moveTail 35 = .ok (.getfield 15, 3) := by decide +kernel
theorem dX11_moveTail_38 : decode cX11_moveTail 38 = .ok (.iload_n 1, 1) := by decide +kernel
theorem dX11_moveTail_39 : decode cX11_moveTail 39 = .ok (.iaload, 1) := by decide +kernel
theorem dX11_moveTail_40 : decode cX11_moveTail 40 = .ok (.if_icmp .le 4, 3) := by decide +kernel
theorem dX11_moveTail_43 : decode cX11_moveTail 43 = .ok (.return_, 1) := by decide +kernel
theorem dX11_moveTail_44 : decode cX11_moveTail 44 = .ok (.aload_n 0, 1) := by decide +kernel
theorem dX11_moveTail_45 : decode cX11_moveTail 45 = .ok (.getfield 15, 3) := by decide +kernel
theorem dX11_moveTail_48 : decode cX11_moveTail 48 = .ok (.iload_n 1, 1) := by decide +kernel
theorem dX11_moveTail_49 : decode cX11_moveTail 49 = .ok (.iaload, 1) := by decide +kernel
theorem dX11_moveTail_50 : decode cX11_moveTail 50 = .ok (.iload_n 2, 1) := by decide +kernel
theorem dX11_moveTail_51 : decode cX11_moveTail 51 = .ok (.isub, 1) := by decide +kernel
theorem dX11_moveTail_52 : decode cX11_moveTail 52 = .ok (.istore 4, 2) := by decide +kernel
theorem dX11_moveTail_54 : decode cX11_moveTail 54 = .ok (.aload_n 0, 1) := by decide +kernel
theorem dX11_moveTail_55 : decode cX11_moveTail 55 = .ok (.getfield 15, 3) := by decide +kernel
theorem dX11_moveTail_58 : decode cX11_moveTail 58 = .ok (.iload_n 3, 1) := by decide +kernel
theorem dX11_moveTail_59 : decode cX11_moveTail 59 = .ok (.iaload, 1) := by decide +kernel
theorem dX11_moveTail_60 : decode cX11_moveTail 60 = .ok (.iload 4, 2) := by decide +kernel
theorem dX11_moveTail_62 : decode cX11_moveTail 62 = .ok (.iadd, 1) := by decide +kernel
theorem dX11_moveTail_63 : decode cX11_moveTail 63 = .ok (.bipush 60, 2) := by decide +kernel
theorem dX11_moveTail_65 : decode cX11_moveTail 65 = .ok (.if_icmp .le 4, 3) := by decide +kernel
theorem dX11_moveTail_68 : decode cX11_moveTail 68 = .ok (.return_, 1) := by decide +kernel
theorem dX11_moveTail_69 : decode cX11_moveTail 69 = .ok (.aload_n 0, 1) := by decide +kernel
theorem dX11_moveTail_70 : decode cX11_moveTail 70 = .ok (.getfield 9, 3) := by decide +kernel
theorem dX11_moveTail_73 : decode cX11_moveTail 73 = .ok (.iload_n 1, 1) := by decide +kernel
theorem dX11_moveTail_74 : decode cX11_moveTail 74 = .ok (.bipush 60, 2) := by decide +kernel
theorem dX11_moveTail_76 : decode cX11_moveTail 76 = .ok (.imul, 1) := by decide +kernel
theorem dX11_moveTail_77 : decode cX11_moveTail 77 = .ok (.iload_n 2, 1) := by decide +kernel
theorem dX11_moveTail_78 : decode cX11_moveTail 78 = .ok (.iadd, 1) := by decide +kernel
theorem dX11_moveTail_79 : decode cX11_moveTail 79 = .ok (.aload_n 0, 1) := by decide +kernel
theorem dX11_moveTail_80 : decode cX11_moveTail 80 = .ok (.getfield 9, 3) := by decide +kernel
theorem dX11_moveTail_83 : decode cX11_moveTail 83 = .ok (.iload_n 3, 1) := by decide +kernel
theorem dX11_moveTail_84 : decode cX11_moveTail 84 = .ok (.bipush 60, 2) := by decide +kernel
theorem dX11_moveTail_86 : decode cX11_moveTail 86 = .ok (.imul, 1) := by decide +kernel
theorem dX11_moveTail_87 : decode cX11_moveTail 87 = .ok (.aload_n 0, 1) := by decide +kernel
theorem dX11_moveTail_88 : decode cX11_moveTail 88 = .ok (.getfield 15, 3) := by decide +kernel
theorem dX11_moveTail_91 : decode cX11_moveTail 91 = .ok (.iload_n 3, 1) := by decide +kernel
theorem dX11_moveTail_92 : decode cX11_moveTail 92 = .ok (.iaload, 1) := by decide +kernel
theorem dX11_moveTail_93 : decode cX11_moveTail 93 = .ok (.iadd, 1) := by decide +kernel
theorem dX11_moveTail_94 : decode cX11_moveTail 94 = .ok (.iload 4, 2) := by decide +kernel
theorem dX11_moveTail_96 : decode cX11_moveTail 96 = .ok (.invokestatic 47, 3) := by decide +kernel
theorem dX11_moveTail_99 : decode cX11_moveTail 99 = .ok (.aload_n 0, 1) := by decide +kernel
theorem dX11_moveTail_100 : decode cX11_moveTail 100 = .ok (.getfield 15, 3) := by decide +kernel
theorem dX11_moveTail_103 : decode cX11_moveTail 103 = .ok (.iload_n 3, 1) := by decide +kernel
theorem dX11_moveTail_104 : decode cX11_moveTail 104 = .ok (.dup2, 1) := by decide +kernel
theorem dX11_moveTail_105 : decode cX11_moveTail 105 = .ok (.iaload, 1) := by decide +kernel
theorem dX11_moveTail_106 : decode cX11_moveTail 106 = .ok (.iload 4, 2) := by decide +kernel
theorem dX11_moveTail_108 : decode cX11_moveTail 108 = .ok (.iadd, 1) := by decide +kernel
theorem dX11_moveTail_109 : decode cX11_moveTail 109 = .ok (.iastore, 1) := by decide +kernel
theorem dX11_moveTail_110 : decode cX11_moveTail 110 = .ok (.aload_n 0, 1) := by decide +kernel
theorem dX11_moveTail_111 : decode cX11_moveTail 111 = .ok (.getfield 15, 3) := by decide +kernel
theorem dX11_moveTail_114 : decode cX11_moveTail 114 = .ok (.iload_n 1, 1) := by decide +kernel
theorem dX11_moveTail_115 : decode cX11_moveTail 115 = .ok (.iload_n 2, 1) := by decide +kernel
theorem dX11_moveTail_116 : decode cX11_moveTail 116 = .ok (.iastore, 1) := by decide +kernel
theorem dX11_moveTail_117 : decode cX11_moveTail 117 = .ok (.return_, 1) := by decide +kernel
theorem dX11_compareLines_0 : decode cX11_compareLines 0 = .ok (.aload_n 0, 1) := by decide +kernel
theorem dX11_compareLines_1 : decode cX11_compareLines 1 = .ok (.iload_n 1, 1) := by decide +kernel
theorem dX11_compareLines_2 : decode cX11_compareLines 2 = .ok (.invokevirtual 33, 3) := by decide +kernel
theorem dX11_compareLines_5 : decode cX11_compareLines 5 = .ok (.aload_n 0, 1) := by decide +kernel
theorem dX11_compareLines_6 : decode cX11_compareLines 6 = .ok (.iload_n 2, 1) := by decide +kernel
theorem dX11_compareLines_7 : decode cX11_compareLines 7 = .ok (.invokevirtual 33, 3) := by decide +kernel
theorem dX11_compareLines_10 : decode cX11_compareLines 10 = .ok (.invokestatic 41, 3) := by decide +kernel
theorem dX11_compareLines_13 : decode cX11_compareLines 13 = .ok (.istore_n 3, 1) := by decide +kernel
theorem dX11_compareLines_14 : decode cX11_compareLines 14 = .ok (.iconst 0, 1) := by decide +kernel
theorem dX11_compareLines_15 : decode cX11_compareLines 15 = .ok (.istore 4, 2) := by decide +kernel
theorem dX11_compareLines_17 : decode cX11_compareLines 17 = .ok (.iload 4, 2) := by decide +kernel
theorem dX11_compareLines_19 : decode cX11_compareLines 19 = .ok (.iload_n 3, 1) := by decide +kernel
theorem dX11_compareLines_20 : decode cX11_compareLines 20 = .ok (.if_icmp .ge 44, 3) := by decide +kernel
theorem dX11_compareLines_23 : decode cX11_compareLines 23 = .ok (.aload_n 0, 1) := by decide +kernel
theorem dX11_compareLines_24 : decode cX11_compareLines 24 = .ok (.getfield 9, 3) := by decide +kernel
theorem dX11_compareLines_27 : decode cX11_compareLines 27 = .ok (.iload_n 1, 1) := by decide +kernel
theorem dX11_compareLines_28 : decode cX11_compareLines 28 = .ok (.bipush 60, 2) := by decide +kernel
theorem dX11_compareLines_30 : decode cX11_compareLines 30 = .ok (.imul, 1) := by decide +kernel
theorem dX11_compareLines_31 : decode cX11_compareLines 31 = .ok (.iload 4, 2) := by decide +kernel
theorem dX11_compareLines_33 : decode cX11_compareLines 33 = .ok (.iadd, 1) := by decide +kernel
theorem dX11_compareLines_34 : decode cX11_compareLines 34 = .ok (.caload, 1) := by decide +kernel
theorem dX11_compareLines_35 : decode cX11_compareLines 35 = .ok (.aload_n 0, 1) := by decide +kernel
theorem dX11_compareLines_36 : decode cX11_compareLines 36 = .ok (.getfield 9, 3) := by decide +kernel
theorem dX11_compareLines_39 : decode cX11_compareLines 39 = .ok (.iload_n 2, 1) := by decide +kernel
theorem dX11_compareLines_40 : decode cX11_compareLines 40 = .ok (.bipush 60, 2) := by decide +kernel
theorem dX11_compareLines_42 : decode cX11_compareLines 42 = .ok (.imul, 1) := by decide +kernel
theorem dX11_compareLines_43 : decode cX11_compareLines 43 = .ok (.iload 4, 2) := by decide +kernel
theorem dX11_compareLines_45 : decode cX11_compareLines 45 = .ok (.iadd, 1) := by decide +kernel
theorem dX11_compareLines_46 : decode cX11_compareLines 46 = .ok (.caload, 1) := by decide +kernel
theorem dX11_compareLines_47 : decode cX11_compareLines 47 = .ok (.isub, 1) := by decide +kernel
theorem dX11_compareLines_48 : decode cX11_compareLines 48 = .ok (.istore 5, 2) := by decide +kernel
theorem dX11_compareLines_50 : decode cX11_compareLines 50 = .ok (.iload 5, 2) := by decide +kernel
theorem dX11_compareLines_52 : decode cX11_compareLines 52 = .ok (.ifCond .eq 6, 3) := by decide +kernel
theorem dX11_compareLines_55 : decode cX11_compareLines 55 = .ok (.iload 5, 2) := by decide +kernel
theorem dX11_compareLines_57 : decode cX11_compareLines 57 = .ok (.ireturn, 1) := by decide +kernel
theorem dX11_compareLines_58 : decode cX11_compareLines 58 = .ok (.iinc 4 1, 3) := by decide +kernel
theorem dX11_compareLines_61 : decode cX11_compareLines 61 = .ok (.goto (-44), 3) := by decide +kernel
theorem dX11_compareLines_64 : decode cX11_compareLines 64 = .ok (.aload_n 0, 1) := by decide +kernel
theorem dX11_compareLines_65 : decode cX11_compareLines 65 = .ok (.iload_n 1, 1) := by decide +kernel
theorem dX11_compareLines_66 : decode cX11_compareLines 66 = .ok (.invokevirtual 33, 3) := by decide +kernel
theorem dX11_compareLines_69 : decode cX11_compareLines 69 = .ok (.aload_n 0, 1) := by decide +kernel
theorem dX11_compareLines_70 : decode cX11_compareLines 70 = .ok (.iload_n 2, 1) := by decide +kernel
theorem dX11_compareLines_71 : decode cX11_compareLines 71 = .ok (.invokevirtual 33, 3) := by decide +kernel
theorem dX11_compareLines_74 : decode cX11_compareLines 74 = .ok (.isub, 1) := by decide +kernel
theorem dX11_compareLines_75 : decode cX11_compareLines 75 = .ok (.ireturn, 1) := by decide +kernel
theorem dX11_hasAt_0 : decode cX11_hasAt 0 = .ok (.iload_n 1, 1) := by decide +kernel
theorem dX11_hasAt_1 : decode cX11_hasAt 1 = .ok (.ifCond .lt 30, 3) := by decide +kernel
theorem dX11_hasAt_4 : decode cX11_hasAt 4 = .ok (.iload_n 1, 1) := by decide +kernel
theorem dX11_hasAt_5 : decode cX11_hasAt 5 = .ok (.aload_n 0, 1) := by decide +kernel
theorem dX11_hasAt_6 : decode cX11_hasAt 6 = .ok (.getfield 26, 3) := by decide +kernel
theorem dX11_hasAt_9 : decode cX11_hasAt 9 = .ok (.if_icmp .ge 22, 3) := by decide +kernel
theorem dX11_hasAt_12 : decode cX11_hasAt 12 = .ok (.iload_n 2, 1) := by decide +kernel
theorem dX11_hasAt_13 : decode cX11_hasAt 13 = .ok (.ifCond .lt 18, 3) := by decide +kernel
theorem dX11_hasAt_16 : decode cX11_hasAt 16 = .ok (.iload_n 2, 1) := by decide +kernel
theorem dX11_hasAt_17 : decode cX11_hasAt 17 = .ok (.aload_n 3, 1) := by decide +kernel
theorem dX11_hasAt_18 : decode cX11_hasAt 18 = .ok (.getfield 53, 3) := by decide +kernel
theorem dX11_hasAt_21 : decode cX11_hasAt 21 = .ok (.iadd, 1) := by decide +kernel
theorem dX11_hasAt_22 : decode cX11_hasAt 22 = .ok (.aload_n 0, 1) := by decide +kernel
theorem dX11_hasAt_23 : decode cX11_hasAt 23 = .ok (.getfield 15, 3) := by decide +kernel
theorem dX11_hasAt_26 : decode cX11_hasAt 26 = .ok (.iload_n 1, 1) := by decide +kernel
theorem dX11_hasAt_27 : decode cX11_hasAt 27 = .ok (.iaload, 1) := by decide +kernel
theorem dX11_hasAt_28 : decode cX11_hasAt 28 = .ok (.if_icmp .le 5, 3) := by decide +kernel
theorem dX11_hasAt_31 : decode cX11_hasAt 31 = .ok (.iconst 0, 1) := by decide +kernel
theorem dX11_hasAt_32 : decode cX11_hasAt 32 = .ok (.ireturn, 1) := by decide +kernel
theorem dX11_hasAt_33 : decode cX11_hasAt 33 = .ok (.iconst 0, 1) := by decide +kernel
theorem dX11_hasAt_34 : decode cX11_hasAt 34 = .ok (.istore 4, 2) := by decide +kernel
theorem dX11_hasAt_36 : decode cX11_hasAt 36 = .ok (.iload 4, 2) := by decide +kernel
theorem dX11_hasAt_38 : decode cX11_hasAt 38 = .ok (.aload_n 3, 1) := by decide +kernel
theorem dX11_hasAt_39 : decode cX11_hasAt 39 = .ok (.getfield 53, 3) := by decide +kernel
theorem dX11_hasAt_42 : decode cX11_hasAt 42 = .ok (.if_icmp .ge 35, 3) := by decide +kernel
theorem dX11_hasAt_45 : decode cX11_hasAt 45 = .ok (.aload_n 0, 1) := by decide +kernel
theorem dX11_hasAt_46 : decode cX11_hasAt 46 = .ok (.getfield 9, 3) := by decide +kernel
theorem dX11_hasAt_49 : decode cX11_hasAt 49 = .ok (.iload_n 1, 1) := by decide +kernel
theorem dX11_hasAt_50 : decode cX11_hasAt 50 = .ok (.bipush 60, 2) := by decide +kernel
theorem dX11_hasAt_52 : decode cX11_hasAt 52 = .ok (.imul, 1) := by decide +kernel
theorem dX11_hasAt_53 : decode cX11_hasAt 53 = .ok (.iload_n 2, 1) := by decide +kernel
theorem dX11_hasAt_54 : decode cX11_hasAt 54 = .ok (.iadd, 1) := by decide +kernel
theorem dX11_hasAt_55 : decode cX11_hasAt 55 = .ok (.iload 4, 2) := by decide +kernel
theorem dX11_hasAt_57 : decode cX11_hasAt 57 = .ok (.iadd, 1) := by decide +kernel
theorem dX11_hasAt_58 : decode cX11_hasAt 58 = .ok (.caload, 1) := by decide +kernel
theorem dX11_hasAt_59 : decode cX11_hasAt 59 = .ok (.aload_n 3, 1) := by decide +kernel
theorem dX11_hasAt_60 : decode cX11_hasAt 60 = .ok (.getfield 58, 3) := by decide +kernel
theorem dX11_hasAt_63 : decode cX11_hasAt 63 = .ok (.iload 4, 2) := by decide +kernel
theorem dX11_hasAt_65 : decode cX11_hasAt 65 = .ok (.caload, 1) := by decide +kernel
theorem dX11_hasAt_66 : decode cX11_hasAt 66 = .ok (.if_icmp .eq 5, 3) := by decide +kernel
theorem dX11_hasAt_69 : decode cX11_hasAt 69 = .ok (.iconst 0, 1) := by decide +kernel
theorem dX11_hasAt_70 : decode cX11_hasAt 70 = .ok (.ireturn, 1) := by decide +kernel
theorem dX11_hasAt_71 : decode cX11_hasAt 71 = .ok (.iinc 4 1, 3) := by decide +kernel
theorem dX11_hasAt_74 : decode cX11_hasAt 74 = .ok (.goto (-38), 3) := by decide +kernel
theorem dX11_hasAt_77 : decode cX11_hasAt 77 = .ok (.iconst 1, 1) := by decide +kernel
theorem dX11_hasAt_78 : decode cX11_hasAt 78 = .ok (.ireturn, 1) := by decide +kernel
theorem dX11_findIn_0 : decode cX11_findIn 0 = .ok (.aload_n 0, 1) := by decide +kernel
theorem dX11_findIn_1 : decode cX11_findIn 1 = .ok (.iload_n 1, 1) := by decide +kernel
theorem dX11_findIn_2 : decode cX11_findIn 2 = .ok (.invokevirtual 33, 3) := by decide +kernel
theorem dX11_findIn_5 : decode cX11_findIn 5 = .ok (.aload_n 3, 1) := by decide +kernel
theorem dX11_findIn_6 : decode cX11_findIn 6 = .ok (.getfield 53, 3) := by decide +kernel
theorem dX11_findIn_9 : decode cX11_findIn 9 = .ok (.isub, 1) := by decide +kernel
theorem dX11_findIn_10 : decode cX11_findIn 10 = .ok (.istore 4, 2) := by decide +kernel
theorem dX11_findIn_12 : decode cX11_findIn 12 = .ok (.iconst 0, 1) := by decide +kernel
theorem dX11_findIn_13 : decode cX11_findIn 13 = .ok (.iload_n 2, 1) := by decide +kernel
theorem dX11_findIn_14 : decode cX11_findIn 14 = .ok (.invokestatic 71, 3) := by decide +kernel
theorem dX11_findIn_17 : decode cX11_findIn 17 = .ok (.istore 5, 2) := by decide +kernel
theorem dX11_findIn_19 : decode cX11_findIn 19 = .ok (.iload 5, 2) := by decide +kernel
theorem dX11_findIn_21 : decode cX11_findIn 21 = .ok (.iload 4, 2) := by decide +kernel
theorem dX11_findIn_23 : decode cX11_findIn 23 = .ok (.if_icmp .gt 23, 3) := by decide +kernel
theorem dX11_findIn_26 : decode cX11_findIn 26 = .ok (.aload_n 0, 1) := by decide +kernel
theorem dX11_findIn_27 : decode cX11_findIn 27 = .ok (.iload_n 1, 1) := by decide +kernel
theorem dX11_findIn_28 : decode cX11_findIn 28 = .ok (.iload 5, 2) := by decide +kernel
theorem dX11_findIn_30 : decode cX11_findIn 30 = .ok (.aload_n 3, 1) := by decide +kernel
theorem dX11_findIn_31 : decode cX11_findIn 31 = .ok (.invokevirtual 74, 3) := by decide +kernel
theorem dX11_findIn_34 : decode cX11_findIn 34 = .ok (.ifCond .eq 6, 3) := by decide +kernel
theorem dX11_findIn_37 : decode cX11_findIn 37 = .ok (.iload 5, 2) := by decide +kernel
theorem dX11_findIn_39 : decode cX11_findIn 39 = .ok (.ireturn, 1) := by decide +kernel
theorem dX11_findIn_40 : decode cX11_findIn 40 = .ok (.iinc 5 1, 3) := by decide +kernel
theorem dX11_findIn_43 : decode cX11_findIn 43 = .ok (.goto (-24), 3) := by decide +kernel
theorem dX11_findIn_46 : decode cX11_findIn 46 = .ok (.iconst (-1), 1) := by decide +kernel
theorem dX11_findIn_47 : decode cX11_findIn 47 = .ok (.ireturn, 1) := by decide +kernel
theorem dX11_findBack_0 : decode cX11_findBack 0 = .ok (.iload_n 2, 1) := by decide +kernel
theorem dX11_findBack_1 : decode cX11_findBack 1 = .ok (.iconst 1, 1) := by decide +kernel
theorem dX11_findBack_2 : decode cX11_findBack 2 = .ok (.isub, 1) := by decide +kernel
theorem dX11_findBack_3 : decode cX11_findBack 3 = .ok (.aload_n 0, 1) := by decide +kernel
theorem dX11_findBack_4 : decode cX11_findBack 4 = .ok (.iload_n 1, 1) := by decide +kernel
theorem dX11_findBack_5 : decode cX11_findBack 5 = .ok (.invokevirtual 33, 3) := by decide +kernel
theorem dX11_findBack_8 : decode cX11_findBack 8 = .ok (.aload 4, 2) := by decide +kernel
theorem dX11_findBack_10 : decode cX11_findBack 10 = .ok (.getfield 53, 3) := by decide +kernel
theorem dX11_findBack_13 : decode cX11_findBack 13 = .ok (.isub, 1) := by decide +kernel
theorem dX11_findBack_14 : decode cX11_findBack 14 = .ok (.invokestatic 41, 3) := by decide +kernel
theorem dX11_findBack_17 : decode cX11_findBack 17 = .ok (.istore 5, 2) := by decide +kernel
theorem dX11_findBack_19 : decode cX11_findBack 19 = .ok (.iload 5, 2) := by decide +kernel
theorem dX11_findBack_21 : decode cX11_findBack 21 = .ok (.istore 6, 2) := by decide +kernel
theorem dX11_findBack_23 : decode cX11_findBack 23 = .ok (.iload 6, 2) := by decide +kernel
theorem dX11_findBack_25 : decode cX11_findBack 25 = .ok (.iconst 0, 1) := by decide +kernel
theorem dX11_findBack_26 : decode cX11_findBack 26 = .ok (.iload_n 3, 1) := by decide +kernel
theorem dX11_findBack_27 : decode cX11_findBack 27 = .ok (.invokestatic 71, 3) := by decide +kernel
theorem dX11_findBack_30 : decode cX11_findBack 30 = .ok (.if_icmp .lt 24, 3) := by decide +kernel
theorem dX11_findBack_33 : decode cX11_findBack 33 = .ok (.aload_n 0, 1) := by decide +kernel
theorem dX11_findBack_34 : decode cX11_findBack 34 = .ok (.iload_n 1, 1) := by decide +kernel
theorem dX11_findBack_35 : decode cX11_findBack 35 = .ok (.iload 6, 2) := by decide +kernel
theorem dX11_findBack_37 : decode cX11_findBack 37 = .ok (.aload 4, 2) := by decide +kernel
theorem dX11_findBack_39 : decode cX11_findBack 39 = .ok (.invokevirtual 74, 3) := by decide +kernel
theorem dX11_findBack_42 : decode cX11_findBack 42 = .ok (.ifCond .eq 6, 3) := by decide +kernel
theorem dX11_findBack_45 : decode cX11_findBack 45 = .ok (.iload 6, 2) := by decide +kernel
theorem dX11_findBack_47 : decode cX11_findBack 47 = .ok (.ireturn, 1) := by decide +kernel
theorem dX11_findBack_48 : decode cX11_findBack 48 = .ok (.iinc 6 (-1), 3) := by decide +kernel
theorem dX11_findBack_51 : decode cX11_findBack 51 = .ok (.goto (-28), 3) := by decide +kernel
theorem dX11_findBack_54 : decode cX11_findBack 54 = .ok (.iconst (-1), 1) := by decide +kernel
theorem dX11_findBack_55 : decode cX11_findBack 55 = .ok (.ireturn, 1) := by decide +kernel

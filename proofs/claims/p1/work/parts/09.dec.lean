theorem dX13_can_0 : decode cX13_can 0 = .ok (.aload_n 0, 1) := by decide +kernel
theorem dX13_can_1 : decode cX13_can 1 = .ok (.iload_n 1, 1) := by decide +kernel
theorem dX13_can_2 : decode cX13_can 2 = .ok (.putfield 195, 3) := by decide +kernel
theorem dX13_can_5 : decode cX13_can 5 = .ok (.iload_n 1, 1) := by decide +kernel
theorem dX13_can_6 : decode cX13_can 6 = .ok (.ifCond .ne 7, 3) := by decide +kernel
theorem dX13_can_9 : decode cX13_can 9 = .ok (.iconst 1, 1) := by decide +kernel
theorem dX13_can_10 : decode cX13_can 10 = .ok (.goto 4, 3) := by decide +kernel
theorem dX13_can_13 : decode cX13_can 13 = .ok (.iconst 0, 1) := by decide +kernel
theorem dX13_can_14 : decode cX13_can 14 = .ok (.ireturn, 1) := by decide +kernel
theorem dX13_isIn_0 : decode cX13_isIn 0 = .ok (.iload_n 0, 1) := by decide +kernel
theorem dX13_isIn_1 : decode cX13_isIn 1 = .ok (.iload_n 1, 1) := by decide +kernel
theorem dX13_isIn_2 : decode cX13_isIn 2 = .ok (.if_icmp .lt 12, 3) := by decide +kernel
theorem dX13_isIn_5 : decode cX13_isIn 5 = .ok (.iload_n 0, 1) := by decide +kernel
theorem dX13_isIn_6 : decode cX13_isIn 6 = .ok (.iload_n 2, 1) := by decide +kernel
theorem dX13_isIn_7 : decode cX13_isIn 7 = .ok (.if_icmp .gt 7, 3) := by decide +kernel
theorem dX13_isIn_10 : decode cX13_isIn 10 = .ok (.iconst 1, 1) := by decide +kernel
theorem dX13_isIn_11 : decode cX13_isIn 11 = .ok (.goto 4, 3) := by decide +kernel
theorem dX13_isIn_14 : decode cX13_isIn 14 = .ok (.iconst 0, 1) := by decide +kernel
theorem dX13_isIn_15 : decode cX13_isIn 15 = .ok (.ireturn, 1) := by decide +kernel
theorem dX13_isSign_0 : decode cX13_isSign 0 = .ok (.iload_n 0, 1) := by decide +kernel
theorem dX13_isSign_1 : decode cX13_isSign 1 = .ok (.bipush 32, 2) := by decide +kernel
theorem dX13_isSign_3 : decode cX13_isSign 3 = .ok (.bipush 126, 2) := by decide +kernel
theorem dX13_isSign_5 : decode cX13_isSign 5 = .ok (.invokestatic 198, 3) := by decide +kernel
theorem dX13_isSign_8 : decode cX13_isSign 8 = .ok (.ireturn, 1) := by decide +kernel
theorem dX13_isKey_0 : decode cX13_isKey 0 = .ok (.iload_n 0, 1) := by decide +kernel
theorem dX13_isKey_1 : decode cX13_isKey 1 = .ok (.invokestatic 202, 3) := by decide +kernel
theorem dX13_isKey_4 : decode cX13_isKey 4 = .ok (.ifCond .ne 45, 3) := by decide +kernel
theorem dX13_isKey_7 : decode cX13_isKey 7 = .ok (.iload_n 0, 1) := by decide +kernel
theorem dX13_isKey_8 : decode cX13_isKey 8 = .ok (.bipush 8, 2) := by decide +kernel
theorem dX13_isKey_10 : decode cX13_isKey 10 = .ok (.if_icmp .eq 39, 3) := by decide +kernel
theorem dX13_isKey_13 : decode cX13_isKey 13 = .ok (.iload_n 0, 1) := by decide +kernel
theorem dX13_isKey_14 : decode cX13_isKey 14 = .ok (.bipush 9, 2) := by decide +kernel
theorem dX13_isKey_16 : decode cX13_isKey 16 = .ok (.if_icmp .eq 33, 3) := by decide +kernel
theorem dX13_isKey_19 : decode cX13_isKey 19 = .ok (.iload_n 0, 1) := by decide +kernel
theorem dX13_isKey_20 : decode cX13_isKey 20 = .ok (.bipush 13, 2) := by decide +kernel
theorem dX13_isKey_22 : decode cX13_isKey 22 = .ok (.if_icmp .eq 27, 3) := by decide +kernel
theorem dX13_isKey_25 : decode cX13_isKey 25 = .ok (.iload_n 0, 1) := by decide +kernel
theorem dX13_isKey_26 : decode cX13_isKey 26 = .ok (.bipush 15, 2) := by decide +kernel
theorem dX13_isKey_28 : decode cX13_isKey 28 = .ok (.if_icmp .eq 21, 3) := by decide +kernel
theorem dX13_isKey_31 : decode cX13_isKey 31 = .ok (.iload_n 0, 1) := by decide +kernel
theorem dX13_isKey_32 : decode cX13_isKey 32 = .ok (.bipush 18, 2) := by decide +kernel
theorem dX13_isKey_34 : decode cX13_isKey 34 = .ok (.if_icmp .eq 15, 3) := by decide +kernel
theorem dX13_isKey_37 : decode cX13_isKey 37 = .ok (.iload_n 0, 1) := by decide +kernel
theorem dX13_isKey_38 : decode cX13_isKey 38 = .ok (.bipush 22, 2) := by decide +kernel
theorem dX13_isKey_40 : decode cX13_isKey 40 = .ok (.if_icmp .eq 9, 3) := by decide +kernel
theorem dX13_isKey_43 : decode cX13_isKey 43 = .ok (.iload_n 0, 1) := by decide +kernel
theorem dX13_isKey_44 : decode cX13_isKey 44 = .ok (.bipush 27, 2) := by decide +kernel
theorem dX13_isKey_46 : decode cX13_isKey 46 = .ok (.if_icmp .ne 7, 3) := by decide +kernel
theorem dX13_isKey_49 : decode cX13_isKey 49 = .ok (.iconst 1, 1) := by decide +kernel
theorem dX13_isKey_50 : decode cX13_isKey 50 = .ok (.goto 4, 3) := by decide +kernel
theorem dX13_isKey_53 : decode cX13_isKey 53 = .ok (.iconst 0, 1) := by decide +kernel
theorem dX13_isKey_54 : decode cX13_isKey 54 = .ok (.ireturn, 1) := by decide +kernel
theorem dX13_at_0 : decode cX13_at 0 = .ok (.aload_n 0, 1) := by decide +kernel
theorem dX13_at_1 : decode cX13_at 1 = .ok (.getfield 20, 3) := by decide +kernel
theorem dX13_at_4 : decode cX13_at 4 = .ok (.bipush 60, 2) := by decide +kernel
theorem dX13_at_6 : decode cX13_at 6 = .ok (.iload_n 1, 1) := by decide +kernel
theorem dX13_at_7 : decode cX13_at 7 = .ok (.imul, 1) := by decide +kernel
theorem dX13_at_8 : decode cX13_at 8 = .ok (.iload_n 2, 1) := by decide +kernel
theorem dX13_at_9 : decode cX13_at 9 = .ok (.iadd, 1) := by decide +kernel
theorem dX13_at_10 : decode cX13_at 10 = .ok (.iaload, 1) := by decide +kernel
theorem dX13_at_11 : decode cX13_at 11 = .ok (.ireturn, 1) := by decide +kernel
theorem dX13_registerOf_0 : decode cX13_registerOf 0 = .ok (.iload_n 0, 1) := by decide +kernel
theorem dX13_registerOf_1 : decode cX13_registerOf 1 = .ok (.bipush 97, 2) := by decide +kernel
theorem dX13_registerOf_3 : decode cX13_registerOf 3 = .ok (.bipush 122, 2) := by decide +kernel
theorem dX13_registerOf_5 : decode cX13_registerOf 5 = .ok (.invokestatic 198, 3) := by decide +kernel
theorem dX13_registerOf_8 : decode cX13_registerOf 8 = .ok (.ifCond .ne 14, 3) := by decide +kernel
theorem dX13_registerOf_11 : decode cX13_registerOf 11 = .ok (.iload_n 0, 1) := by decide +kernel
theorem dX13_registerOf_12 : decode cX13_registerOf 12 = .ok (.bipush 65, 2) := by decide +kernel
theorem dX13_registerOf_14 : decode cX13_registerOf 14 = .ok (.bipush 90, 2) := by decide +kernel
theorem dX13_registerOf_16 : decode cX13_registerOf 16 = .ok (.invokestatic 198, 3) := by decide +kernel
theorem dX13_registerOf_19 : decode cX13_registerOf 19 = .ok (.ifCond .eq 21, 3) := by decide +kernel
theorem dX13_registerOf_22 : decode cX13_registerOf 22 = .ok (.iload_n 0, 1) := by decide +kernel
theorem dX13_registerOf_23 : decode cX13_registerOf 23 = .ok (.bipush 97, 2) := by decide +kernel
theorem dX13_registerOf_25 : decode cX13_registerOf 25 = .ok (.if_icmp .lt 10, 3) := by decide +kernel
theorem dX13_registerOf_28 : decode cX13_registerOf 28 = .ok (.iload_n 0, 1) := by decide +kernel
theorem dX13_registerOf_29 : decode cX13_registerOf 29 = .ok (.bipush 97, 2) := by decide +kernel
theorem dX13_registerOf_31 : decode cX13_registerOf 31 = .ok (.isub, 1) := by decide +kernel
theorem dX13_registerOf_32 : decode cX13_registerOf 32 = .ok (.goto 7, 3) := by decide +kernel
theorem dX13_registerOf_35 : decode cX13_registerOf 35 = .ok (.iload_n 0, 1) := by decide +kernel
theorem dX13_registerOf_36 : decode cX13_registerOf 36 = .ok (.bipush 65, 2) := by decide +kernel
theorem dX13_registerOf_38 : decode cX13_registerOf 38 = .ok (.isub, 1) := by decide +kernel
theorem dX13_registerOf_39 : decode cX13_registerOf 39 = .ok (.ireturn, 1) := by decide +kernel
theorem dX13_registerOf_40 : decode cX13_registerOf 40 = .ok (.iload_n 0, 1) := by decide +kernel
theorem dX13_registerOf_41 : decode cX13_registerOf 41 = .ok (.bipush 48, 2) := by decide +kernel
theorem dX13_registerOf_43 : decode cX13_registerOf 43 = .ok (.bipush 57, 2) := by decide +kernel
theorem dX13_registerOf_45 : decode cX13_registerOf 45 = .ok (.invokestatic 198, 3) := by decide +kernel
theorem dX13_registerOf_48 : decode cX13_registerOf 48 = .ok (.ifCond .eq 13, 3) := by decide +kernel
theorem dX13_registerOf_51 : decode cX13_registerOf 51 = .ok (.bipush 26, 2) := by decide +kernel
theorem dX13_registerOf_53 : decode cX13_registerOf 53 = .ok (.iload_n 0, 1) := by decide +kernel
theorem dX13_registerOf_54 : decode cX13_registerOf 54 = .ok (.iadd, 1) := by decide +kernel
theorem dX13_registerOf_55 : decode cX13_registerOf 55 = .ok (.bipush 48, 2) := by decide +kernel
theorem dX13_registerOf_57 : decode cX13_registerOf 57 = .ok (.isub, 1) := by decide +kernel
theorem dX13_registerOf_58 : decode cX13_registerOf 58 = .ok (.goto 37, 3) := by decide +kernel
theorem dX13_registerOf_61 : decode cX13_registerOf 61 = .ok (.iload_n 0, 1) := by decide +kernel
theorem dX13_registerOf_62 : decode cX13_registerOf 62 = .ok (.bipush 45, 2) := by decide +kernel
theorem dX13_registerOf_64 : decode cX13_registerOf 64 = .ok (.if_icmp .ne 8, 3) := by decide +kernel
theorem dX13_registerOf_67 : decode cX13_registerOf 67 = .ok (.bipush 36, 2) := by decide +kernel
theorem dX13_registerOf_69 : decode cX13_registerOf 69 = .ok (.goto 26, 3) := by decide +kernel
theorem dX13_registerOf_72 : decode cX13_registerOf 72 = .ok (.iload_n 0, 1) := by decide +kernel
theorem dX13_registerOf_73 : decode cX13_registerOf 73 = .ok (.bipush 34, 2) := by decide +kernel
theorem dX13_registerOf_75 : decode cX13_registerOf 75 = .ok (.if_icmp .ne 8, 3) := by decide +kernel
theorem dX13_registerOf_78 : decode cX13_registerOf 78 = .ok (.bipush 37, 2) := by decide +kernel
theorem dX13_registerOf_80 : decode cX13_registerOf 80 = .ok (.goto 15, 3) := by decide +kernel
theorem dX13_registerOf_83 : decode cX13_registerOf 83 = .ok (.iload_n 0, 1) := by decide +kernel
theorem dX13_registerOf_84 : decode cX13_registerOf 84 = .ok (.bipush 95, 2) := by decide +kernel
theorem dX13_registerOf_86 : decode cX13_registerOf 86 = .ok (.if_icmp .ne 8, 3) := by decide +kernel
theorem dX13_registerOf_89 : decode cX13_registerOf 89 = .ok (.bipush 38, 2) := by decide +kernel
theorem dX13_registerOf_91 : decode cX13_registerOf 91 = .ok (.goto 4, 3) := by decide +kernel
theorem dX13_registerOf_94 : decode cX13_registerOf 94 = .ok (.iconst (-1), 1) := by decide +kernel
theorem dX13_registerOf_95 : decode cX13_registerOf 95 = .ok (.ireturn, 1) := by decide +kernel
theorem dX13_keyOf_0 : decode cX13_keyOf 0 = .ok (.lload_n 0, 1) := by decide +kernel
theorem dX13_keyOf_1 : decode cX13_keyOf 1 = .ok (.bipush 8, 2) := by decide +kernel
theorem dX13_keyOf_3 : decode cX13_keyOf 3 = .ok (.iload_n 2, 1) := by decide +kernel
theorem dX13_keyOf_4 : decode cX13_keyOf 4 = .ok (.imul, 1) := by decide +kernel
theorem dX13_keyOf_5 : decode cX13_keyOf 5 = .ok (.lushr, 1) := by decide +kernel
theorem dX13_keyOf_6 : decode cX13_keyOf 6 = .ok (.ldc2_w 1001, 3) := by decide +kernel
theorem dX13_keyOf_9 : decode cX13_keyOf 9 = .ok (.land, 1) := by decide +kernel
theorem dX13_keyOf_10 : decode cX13_keyOf 10 = .ok (.l2i, 1) := by decide +kernel
theorem dX13_keyOf_11 : decode cX13_keyOf 11 = .ok (.ireturn, 1) := by decide +kernel
theorem dX13_keysIn_0 : decode cX13_keysIn 0 = .ok (.iconst 0, 1) := by decide +kernel
theorem dX13_keysIn_1 : decode cX13_keysIn 1 = .ok (.istore_n 2, 1) := by decide +kernel
theorem dX13_keysIn_2 : decode cX13_keysIn 2 = .ok (.iconst 0, 1) := by decide +kernel
theorem dX13_keysIn_3 : decode cX13_keysIn 3 = .ok (.istore_n 3, 1) := by decide +kernel
theorem dX13_keysIn_4 : decode cX13_keysIn 4 = .ok (.iload_n 3, 1) := by decide +kernel
theorem dX13_keysIn_5 : decode cX13_keysIn 5 = .ok (.bipush 8, 2) := by decide +kernel
theorem dX13_keysIn_7 : decode cX13_keysIn 7 = .ok (.if_icmp .ge 25, 3) := by decide +kernel
theorem dX13_keysIn_10 : decode cX13_keysIn 10 = .ok (.iload_n 2, 1) := by decide +kernel
theorem dX13_keysIn_11 : decode cX13_keysIn 11 = .ok (.lload_n 0, 1) := by decide +kernel
theorem dX13_keysIn_12 : decode cX13_keysIn 12 = .ok (.iload_n 3, 1) := by decide +kernel
theorem dX13_keysIn_13 : decode cX13_keysIn 13 = .ok (.invokestatic 1036, 3) := by decide +kernel
theorem dX13_keysIn_16 : decode cX13_keysIn 16 = .ok (.ifCond .ne 7, 3) := by decide +kernel
theorem dX13_keysIn_19 : decode cX13_keysIn 19 = .ok (.iconst 0, 1) := by decide +kernel
theorem dX13_keysIn_20 : decode cX13_keysIn 20 = .ok (.goto 4, 3) := by decide +kernel
theorem dX13_keysIn_23 : decode cX13_keysIn 23 = .ok (.iconst 1, 1) := by decide +kernel
theorem dX13_keysIn_24 : decode cX13_keysIn 24 = .ok (.iadd, 1) := by decide +kernel
theorem dX13_keysIn_25 : decode cX13_keysIn 25 = .ok (.istore_n 2, 1) := by decide +kernel
theorem dX13_keysIn_26 : decode cX13_keysIn 26 = .ok (.iinc 3 1, 3) := by decide +kernel
theorem dX13_keysIn_29 : decode cX13_keysIn 29 = .ok (.goto (-25), 3) := by decide +kernel
theorem dX13_keysIn_32 : decode cX13_keysIn 32 = .ok (.iload_n 2, 1) := by decide +kernel
theorem dX13_keysIn_33 : decode cX13_keysIn 33 = .ok (.ireturn, 1) := by decide +kernel
theorem dX13_areKeys_0 : decode cX13_areKeys 0 = .ok (.iconst 1, 1) := by decide +kernel
theorem dX13_areKeys_1 : decode cX13_areKeys 1 = .ok (.istore_n 2, 1) := by decide +kernel
theorem dX13_areKeys_2 : decode cX13_areKeys 2 = .ok (.iconst 0, 1) := by decide +kernel
theorem dX13_areKeys_3 : decode cX13_areKeys 3 = .ok (.istore_n 3, 1) := by decide +kernel
theorem dX13_areKeys_4 : decode cX13_areKeys 4 = .ok (.iload_n 3, 1) := by decide +kernel
theorem dX13_areKeys_5 : decode cX13_areKeys 5 = .ok (.bipush 8, 2) := by decide +kernel
theorem dX13_areKeys_7 : decode cX13_areKeys 7 = .ok (.if_icmp .ge 38, 3) := by decide +kernel
theorem dX13_areKeys_10 : decode cX13_areKeys 10 = .ok (.iload_n 2, 1) := by decide +kernel
theorem dX13_areKeys_11 : decode cX13_areKeys 11 = .ok (.ifCond .eq 26, 3) := by decide +kernel
theorem dX13_areKeys_14 : decode cX13_areKeys 14 = .ok (.lload_n 0, 1) := by decide +kernel
theorem dX13_areKeys_15 : decode cX13_areKeys 15 = .ok (.iload_n 3, 1) := by decide +kernel
theorem dX13_areKeys_16 : decode cX13_areKeys 16 = .ok (.invokestatic 1036, 3) := by decide +kernel
theorem dX13_areKeys_19 : decode cX13_areKeys 19 = .ok (.ifCond .eq 14, 3) := by decide +kernel
theorem dX13_areKeys_22 : decode cX13_areKeys 22 = .ok (.lload_n 0, 1) := by decide +kernel
theorem dX13_areKeys_23 : decode cX13_areKeys 23 = .ok (.iload_n 3, 1) := by decide +kernel
theorem dX13_areKeys_24 : decode cX13_areKeys 24 = .ok (.invokestatic 1036, 3) := by decide +kernel
theorem dX13_areKeys_27 : decode cX13_areKeys 27 = .ok (.invokestatic 1049, 3) := by decide +kernel
theorem dX13_areKeys_30 : decode cX13_areKeys 30 = .ok (.ifCond .eq 7, 3) := by decide +kernel
theorem dX13_areKeys_33 : decode cX13_areKeys 33 = .ok (.iconst 1, 1) := by decide +kernel
theorem dX13_areKeys_34 : decode cX13_areKeys 34 = .ok (.goto 4, 3) := by decide +kernel
theorem dX13_areKeys_37 : decode cX13_areKeys 37 = .ok (.iconst 0, 1) := by decide +kernel
theorem dX13_areKeys_38 : decode cX13_areKeys 38 = .ok (.istore_n 2, 1) := by decide +kernel
theorem dX13_areKeys_39 : decode cX13_areKeys 39 = .ok (.iinc 3 1, 3) := by decide +kernel
theorem dX13_areKeys_42 : decode cX13_areKeys 42 = .ok (.goto (-38), 3) := by decide +kernel
theorem dX13_areKeys_45 : decode cX13_areKeys 45 = .ok (.iload_n 2, 1) := by decide +kernel
theorem dX13_areKeys_46 : decode cX13_areKeys 46 = .ok (.ireturn, 1) := by decide +kernel
theorem dX13_laysFrom_0 : decode cX13_laysFrom 0 = .ok (.iconst 0, 1) := by decide +kernel
theorem dX13_laysFrom_1 : decode cX13_laysFrom 1 = .ok (.istore 4, 2) := by decide +kernel
theorem dX13_laysFrom_3 : decode cX13_laysFrom 3 = .ok (.iconst 0, 1) := by decide +kernel
theorem dX13_laysFrom_4 : decode cX13_laysFrom 4 = .ok (.istore 5, 2) := by decide +kernel
theorem dX13_laysFrom_6 : decode cX13_laysFrom 6 = .ok (.iload 5, 2) := by decide +kernel
theorem dX13_laysFrom_8 : decode cX13_laysFrom 8 = .ok (.bipush 8, 2) := by decide +kernel
theorem dX13_laysFrom_10 : decode cX13_laysFrom 10 = .ok (.if_icmp .ge 38, 3) := by decide +kernel
theorem dX13_laysFrom_13 : decode cX13_laysFrom 13 = .ok (.lload_n 2, 1) := by decide +kernel
theorem dX13_laysFrom_14 : decode cX13_laysFrom 14 = .ok (.iload 5, 2) := by decide +kernel
theorem dX13_laysFrom_16 : decode cX13_laysFrom 16 = .ok (.invokestatic 1036, 3) := by decide +kernel
theorem dX13_laysFrom_19 : decode cX13_laysFrom 19 = .ok (.ifCond .eq 23, 3) := by decide +kernel
theorem dX13_laysFrom_22 : decode cX13_laysFrom 22 = .ok (.aload_n 0, 1) := by decide +kernel
theorem dX13_laysFrom_23 : decode cX13_laysFrom 23 = .ok (.getfield 172, 3) := by decide +kernel
theorem dX13_laysFrom_26 : decode cX13_laysFrom 26 = .ok (.iconst 4, 1) := by decide +kernel
theorem dX13_laysFrom_27 : decode cX13_laysFrom 27 = .ok (.iload_n 1, 1) := by decide +kernel
theorem dX13_laysFrom_28 : decode cX13_laysFrom 28 = .ok (.imul, 1) := by decide +kernel
theorem dX13_laysFrom_29 : decode cX13_laysFrom 29 = .ok (.iload 4, 2) := by decide +kernel
theorem dX13_laysFrom_31 : decode cX13_laysFrom 31 = .ok (.iadd, 1) := by decide +kernel
theorem dX13_laysFrom_32 : decode cX13_laysFrom 32 = .ok (.lload_n 2, 1) := by decide +kernel
theorem dX13_laysFrom_33 : decode cX13_laysFrom 33 = .ok (.iload 5, 2) := by decide +kernel
theorem dX13_laysFrom_35 : decode cX13_laysFrom 35 = .ok (.invokestatic 1036, 3) := by decide +kernel
theorem dX13_laysFrom_38 : decode cX13_laysFrom 38 = .ok (.iastore, 1) := by decide +kernel
theorem dX13_laysFrom_39 : decode cX13_laysFrom 39 = .ok (.iinc 4 1, 3) := by decide +kernel
theorem dX13_laysFrom_42 : decode cX13_laysFrom 42 = .ok (.iinc 5 1, 3) := by decide +kernel
theorem dX13_laysFrom_45 : decode cX13_laysFrom 45 = .ok (.goto (-39), 3) := by decide +kernel
theorem dX13_laysFrom_48 : decode cX13_laysFrom 48 = .ok (.aload_n 0, 1) := by decide +kernel
theorem dX13_laysFrom_49 : decode cX13_laysFrom 49 = .ok (.getfield 169, 3) := by decide +kernel
theorem dX13_laysFrom_52 : decode cX13_laysFrom 52 = .ok (.iload_n 1, 1) := by decide +kernel
theorem dX13_laysFrom_53 : decode cX13_laysFrom 53 = .ok (.iload 4, 2) := by decide +kernel
theorem dX13_laysFrom_55 : decode cX13_laysFrom 55 = .ok (.iastore, 1) := by decide +kernel
theorem dX13_laysFrom_56 : decode cX13_laysFrom 56 = .ok (.iload_n 1, 1) := by decide +kernel
theorem dX13_laysFrom_57 : decode cX13_laysFrom 57 = .ok (.ireturn, 1) := by decide +kernel
theorem dX13_mapLike_0 : decode cX13_mapLike 0 = .ok (.iconst (-1), 1) := by decide +kernel
theorem dX13_mapLike_1 : decode cX13_mapLike 1 = .ok (.istore 4, 2) := by decide +kernel
theorem dX13_mapLike_3 : decode cX13_mapLike 3 = .ok (.iconst 0, 1) := by decide +kernel
theorem dX13_mapLike_4 : decode cX13_mapLike 4 = .ok (.istore 5, 2) := by decide +kernel
theorem dX13_mapLike_6 : decode cX13_mapLike 6 = .ok (.iload 5, 2) := by decide +kernel
theorem dX13_mapLike_8 : decode cX13_mapLike 8 = .ok (.aload_n 0, 1) := by decide +kernel
theorem dX13_mapLike_9 : decode cX13_mapLike 9 = .ok (.getfield 1006, 3) := by decide +kernel
theorem dX13_mapLike_12 : decode cX13_mapLike 12 = .ok (.if_icmp .ge 119, 3) := by decide +kernel
theorem dX13_mapLike_15 : decode cX13_mapLike 15 = .ok (.iconst 0, 1) := by decide +kernel
theorem dX13_mapLike_16 : decode cX13_mapLike 16 = .ok (.istore 6, 2) := by decide +kernel
theorem dX13_mapLike_18 : decode cX13_mapLike 18 = .ok (.aload_n 0, 1) := by decide +kernel
theorem dX13_mapLike_19 : decode cX13_mapLike 19 = .ok (.getfield 166, 3) := by decide +kernel
theorem dX13_mapLike_22 : decode cX13_mapLike 22 = .ok (.iload 5, 2) := by decide +kernel
theorem dX13_mapLike_24 : decode cX13_mapLike 24 = .ok (.iaload, 1) := by decide +kernel
theorem dX13_mapLike_25 : decode cX13_mapLike 25 = .ok (.iload_n 1, 1) := by decide +kernel
theorem dX13_mapLike_26 : decode cX13_mapLike 26 = .ok (.if_icmp .ne 21, 3) := by decide +kernel
theorem dX13_mapLike_29 : decode cX13_mapLike 29 = .ok (.aload_n 0, 1) := by decide +kernel
theorem dX13_mapLike_30 : decode cX13_mapLike 30 = .ok (.getfield 169, 3) := by decide +kernel
theorem dX13_mapLike_33 : decode cX13_mapLike 33 = .ok (.iload 5, 2) := by decide +kernel
theorem dX13_mapLike_35 : decode cX13_mapLike 35 = .ok (.iaload, 1) := by decide +kernel
theorem dX13_mapLike_36 : decode cX13_mapLike 36 = .ok (.lload_n 2, 1) := by decide +kernel
theorem dX13_mapLike_37 : decode cX13_mapLike 37 = .ok (.invokestatic 1055, 3) := by decide +kernel
theorem dX13_mapLike_40 : decode cX13_mapLike 40 = .ok (.if_icmp .ne 7, 3) := by decide +kernel
theorem dX13_mapLike_43 : decode cX13_mapLike 43 = .ok (.iconst 1, 1) := by decide +kernel
theorem dX13_mapLike_44 : decode cX13_mapLike 44 = .ok (.goto 4, 3) := by decide +kernel
theorem dX13_mapLike_47 : decode cX13_mapLike 47 = .ok (.iconst 0, 1) := by decide +kernel
theorem dX13_mapLike_48 : decode cX13_mapLike 48 = .ok (.istore 7, 2) := by decide +kernel
theorem dX13_mapLike_50 : decode cX13_mapLike 50 = .ok (.iconst 0, 1) := by decide +kernel
theorem dX13_mapLike_51 : decode cX13_mapLike 51 = .ok (.istore 8, 2) := by decide +kernel
theorem dX13_mapLike_53 : decode cX13_mapLike 53 = .ok (.iload 8, 2) := by decide +kernel
theorem dX13_mapLike_55 : decode cX13_mapLike 55 = .ok (.bipush 8, 2) := by decide +kernel
theorem dX13_mapLike_57 : decode cX13_mapLike 57 = .ok (.if_icmp .ge 54, 3) := by decide +kernel
theorem dX13_mapLike_60 : decode cX13_mapLike 60 = .ok (.iload 7, 2) := by decide +kernel
theorem dX13_mapLike_62 : decode cX13_mapLike 62 = .ok (.ifCond .eq 49, 3) := by decide +kernel
theorem dX13_mapLike_65 : decode cX13_mapLike 65 = .ok (.lload_n 2, 1) := by decide +kernel
theorem dX13_mapLike_66 : decode cX13_mapLike 66 = .ok (.iload 8, 2) := by decide +kernel
theorem dX13_mapLike_68 : decode cX13_mapLike 68 = .ok (.invokestatic 1036, 3) := by decide +kernel
theorem dX13_mapLike_71 : decode cX13_mapLike 71 = .ok (.ifCond .eq 34, 3) := by decide +kernel
theorem dX13_mapLike_74 : decode cX13_mapLike 74 = .ok (.aload_n 0, 1) := by decide +kernel
theorem dX13_mapLike_75 : decode cX13_mapLike 75 = .ok (.getfield 172, 3) := by decide +kernel
theorem dX13_mapLike_78 : decode cX13_mapLike 78 = .ok (.iconst 4, 1) := by decide +kernel
theorem dX13_mapLike_79 : decode cX13_mapLike 79 = .ok (.iload 5, 2) := by decide +kernel
theorem dX13_mapLike_81 : decode cX13_mapLike 81 = .ok (.imul, 1) := by decide +kernel
theorem dX13_mapLike_82 : decode cX13_mapLike 82 = .ok (.iload 6, 2) := by decide +kernel
theorem dX13_mapLike_84 : decode cX13_mapLike 84 = .ok (.iadd, 1) := by decide +kernel
theorem dX13_mapLike_85 : decode cX13_mapLike 85 = .ok (.iaload, 1) := by decide +kernel
theorem dX13_mapLike_86 : decode cX13_mapLike 86 = .ok (.lload_n 2, 1) := by decide +kernel
theorem dX13_mapLike_87 : decode cX13_mapLike 87 = .ok (.iload 8, 2) := by decide +kernel
theorem dX13_mapLike_89 : decode cX13_mapLike 89 = .ok (.invokestatic 1036, 3) := by decide +kernel
theorem dX13_mapLike_92 : decode cX13_mapLike 92 = .ok (.if_icmp .ne 7, 3) := by decide +kernel
theorem dX13_mapLike_95 : decode cX13_mapLike 95 = .ok (.iconst 1, 1) := by decide +kernel
theorem dX13_mapLike_96 : decode cX13_mapLike 96 = .ok (.goto 4, 3) := by decide +kernel
theorem dX13_mapLike_99 : decode cX13_mapLike 99 = .ok (.iconst 0, 1) := by decide +kernel
theorem dX13_mapLike_100 : decode cX13_mapLike 100 = .ok (.istore 7, 2) := by decide +kernel
theorem dX13_mapLike_102 : decode cX13_mapLike 102 = .ok (.iinc 6 1, 3) := by decide +kernel
theorem dX13_mapLike_105 : decode cX13_mapLike 105 = .ok (.iinc 8 1, 3) := by decide +kernel
theorem dX13_mapLike_108 : decode cX13_mapLike 108 = .ok (.goto (-55), 3) := by decide +kernel
theorem dX13_mapLike_111 : decode cX13_mapLike 111 = .ok (.iload 7, 2) := by decide +kernel
theorem dX13_mapLike_113 : decode cX13_mapLike 113 = .ok (.ifCond .eq 8, 3) := by decide +kernel
theorem dX13_mapLike_116 : decode cX13_mapLike 116 = .ok (.iload 5, 2) := by decide +kernel
theorem dX13_mapLike_118 : decode cX13_mapLike 118 = .ok (.goto 5, 3) := by decide +kernel
theorem dX13_mapLike_121 : decode cX13_mapLike 121 = .ok (.iload 4, 2) := by decide +kernel
theorem dX13_mapLike_123 : decode cX13_mapLike 123 = .ok (.istore 4, 2) := by decide +kernel
theorem dX13_mapLike_125 : decode cX13_mapLike 125 = .ok (.iinc 5 1, 3) := by decide +kernel
theorem dX13_mapLike_128 : decode cX13_mapLike 128 = .ok (.goto (-122), 3) := by decide +kernel
theorem dX13_mapLike_131 : decode cX13_mapLike 131 = .ok (.iload 4, 2) := by decide +kernel
theorem dX13_mapLike_133 : decode cX13_mapLike 133 = .ok (.ireturn, 1) := by decide +kernel
theorem dX13_unmap_0 : decode cX13_unmap 0 = .ok (.iload_n 1, 1) := by decide +kernel
theorem dX13_unmap_1 : decode cX13_unmap 1 = .ok (.iconst 0, 1) := by decide +kernel
theorem dX13_unmap_2 : decode cX13_unmap 2 = .ok (.iconst 2, 1) := by decide +kernel
theorem dX13_unmap_3 : decode cX13_unmap 3 = .ok (.invokestatic 198, 3) := by decide +kernel
theorem dX13_unmap_6 : decode cX13_unmap 6 = .ok (.ifCond .eq 26, 3) := by decide +kernel
theorem dX13_unmap_9 : decode cX13_unmap 9 = .ok (.lload_n 2, 1) := by decide +kernel
theorem dX13_unmap_10 : decode cX13_unmap 10 = .ok (.invokestatic 1059, 3) := by decide +kernel
theorem dX13_unmap_13 : decode cX13_unmap 13 = .ok (.ifCond .eq 19, 3) := by decide +kernel
theorem dX13_unmap_16 : decode cX13_unmap 16 = .ok (.lload_n 2, 1) := by decide +kernel
theorem dX13_unmap_17 : decode cX13_unmap 17 = .ok (.invokestatic 1055, 3) := by decide +kernel
theorem dX13_unmap_20 : decode cX13_unmap 20 = .ok (.iconst 1, 1) := by decide +kernel
theorem dX13_unmap_21 : decode cX13_unmap 21 = .ok (.iconst 4, 1) := by decide +kernel
theorem dX13_unmap_22 : decode cX13_unmap 22 = .ok (.invokestatic 198, 3) := by decide +kernel
theorem dX13_unmap_25 : decode cX13_unmap 25 = .ok (.ifCond .eq 7, 3) := by decide +kernel
theorem dX13_unmap_28 : decode cX13_unmap 28 = .ok (.iconst 1, 1) := by decide +kernel
theorem dX13_unmap_29 : decode cX13_unmap 29 = .ok (.goto 4, 3) := by decide +kernel
theorem dX13_unmap_32 : decode cX13_unmap 32 = .ok (.iconst 0, 1) := by decide +kernel
theorem dX13_unmap_33 : decode cX13_unmap 33 = .ok (.istore 4, 2) := by decide +kernel
theorem dX13_unmap_35 : decode cX13_unmap 35 = .ok (.iload 4, 2) := by decide +kernel
theorem dX13_unmap_37 : decode cX13_unmap 37 = .ok (.ifCond .eq 12, 3) := by decide +kernel
theorem dX13_unmap_40 : decode cX13_unmap 40 = .ok (.aload_n 0, 1) := by decide +kernel
theorem dX13_unmap_41 : decode cX13_unmap 41 = .ok (.iload_n 1, 1) := by decide +kernel
theorem dX13_unmap_42 : decode cX13_unmap 42 = .ok (.lload_n 2, 1) := by decide +kernel
theorem dX13_unmap_43 : decode cX13_unmap 43 = .ok (.invokevirtual 1063, 3) := by decide +kernel
theorem dX13_unmap_46 : decode cX13_unmap 46 = .ok (.goto 4, 3) := by decide +kernel
theorem dX13_unmap_49 : decode cX13_unmap 49 = .ok (.iconst (-1), 1) := by decide +kernel
theorem dX13_unmap_50 : decode cX13_unmap 50 = .ok (.istore 5, 2) := by decide +kernel
theorem dX13_unmap_52 : decode cX13_unmap 52 = .ok (.aload_n 0, 1) := by decide +kernel
theorem dX13_unmap_53 : decode cX13_unmap 53 = .ok (.iload 4, 2) := by decide +kernel
theorem dX13_unmap_55 : decode cX13_unmap 55 = .ok (.ifCond .ne 7, 3) := by decide +kernel
theorem dX13_unmap_58 : decode cX13_unmap 58 = .ok (.iconst 1, 1) := by decide +kernel
theorem dX13_unmap_59 : decode cX13_unmap 59 = .ok (.goto 14, 3) := by decide +kernel
theorem dX13_unmap_62 : decode cX13_unmap 62 = .ok (.iload 5, 2) := by decide +kernel
theorem dX13_unmap_64 : decode cX13_unmap 64 = .ok (.iconst (-1), 1) := by decide +kernel
theorem dX13_unmap_65 : decode cX13_unmap 65 = .ok (.if_icmp .ne 7, 3) := by decide +kernel
theorem dX13_unmap_68 : decode cX13_unmap 68 = .ok (.iconst 2, 1) := by decide +kernel
theorem dX13_unmap_69 : decode cX13_unmap 69 = .ok (.goto 4, 3) := by decide +kernel
theorem dX13_unmap_72 : decode cX13_unmap 72 = .ok (.iconst 0, 1) := by decide +kernel
theorem dX13_unmap_73 : decode cX13_unmap 73 = .ok (.invokevirtual 1043, 3) := by decide +kernel
theorem dX13_unmap_76 : decode cX13_unmap 76 = .ok (.ifCond .ne 5, 3) := by decide +kernel
theorem dX13_unmap_79 : decode cX13_unmap 79 = .ok (.iconst 0, 1) := by decide +kernel
theorem dX13_unmap_80 : decode cX13_unmap 80 = .ok (.ireturn, 1) := by decide +kernel
theorem dX13_unmap_81 : decode cX13_unmap 81 = .ok (.iload 5, 2) := by decide +kernel
theorem dX13_unmap_83 : decode cX13_unmap 83 = .ok (.istore 6, 2) := by decide +kernel
theorem dX13_unmap_85 : decode cX13_unmap 85 = .ok (.iload 6, 2) := by decide +kernel
theorem dX13_unmap_87 : decode cX13_unmap 87 = .ok (.iconst 1, 1) := by decide +kernel
theorem dX13_unmap_88 : decode cX13_unmap 88 = .ok (.iadd, 1) := by decide +kernel
theorem dX13_unmap_89 : decode cX13_unmap 89 = .ok (.aload_n 0, 1) := by decide +kernel
theorem dX13_unmap_90 : decode cX13_unmap 90 = .ok (.getfield 1006, 3) := by decide +kernel
theorem dX13_unmap_93 : decode cX13_unmap 93 = .ok (.if_icmp .ge 142, 3) := by decide +kernel
theorem dX13_unmap_96 : decode cX13_unmap 96 = .ok (.aload_n 0, 1) := by decide +kernel
theorem dX13_unmap_97 : decode cX13_unmap 97 = .ok (.getfield 166, 3) := by decide +kernel
theorem dX13_unmap_100 : decode cX13_unmap 100 = .ok (.iload 6, 2) := by decide +kernel
theorem dX13_unmap_102 : decode cX13_unmap 102 = .ok (.aload_n 0, 1) := by decide +kernel
theorem dX13_unmap_103 : decode cX13_unmap 103 = .ok (.getfield 166, 3) := by decide +kernel
theorem dX13_unmap_106 : decode cX13_unmap 106 = .ok (.iload 6, 2) := by decide +kernel
theorem dX13_unmap_108 : decode cX13_unmap 108 = .ok (.iconst 1, 1) := by decide +kernel
theorem dX13_unmap_109 : decode cX13_unmap 109 = .ok (.iadd, 1) := by decide +kernel
theorem dX13_unmap_110 : decode cX13_unmap 110 = .ok (.iaload, 1) := by decide +kernel
theorem dX13_unmap_111 : decode cX13_unmap 111 = .ok (.iastore, 1) := by decide +kernel
theorem dX13_unmap_112 : decode cX13_unmap 112 = .ok (.aload_n 0, 1) := by decide +kernel
theorem dX13_unmap_113 : decode cX13_unmap 113 = .ok (.getfield 169, 3) := by decide +kernel
theorem dX13_unmap_116 : decode cX13_unmap 116 = .ok (.iload 6, 2) := by decide +kernel
theorem dX13_unmap_118 : decode cX13_unmap 118 = .ok (.aload_n 0, 1) := by decide +kernel
theorem dX13_unmap_119 : decode cX13_unmap 119 = .ok (.getfield 169, 3) := by decide +kernel
theorem dX13_unmap_122 : decode cX13_unmap 122 = .ok (.iload 6, 2) := by decide +kernel
theorem dX13_unmap_124 : decode cX13_unmap 124 = .ok (.iconst 1, 1) := by decide +kernel
theorem dX13_unmap_125 : decode cX13_unmap 125 = .ok (.iadd, 1) := by decide +kernel
theorem dX13_unmap_126 : decode cX13_unmap 126 = .ok (.iaload, 1) := by decide +kernel
theorem dX13_unmap_127 : decode cX13_unmap 127 = .ok (.iastore, 1) := by decide +kernel
theorem dX13_unmap_128 : decode cX13_unmap 128 = .ok (.aload_n 0, 1) := by decide +kernel
theorem dX13_unmap_129 : decode cX13_unmap 129 = .ok (.getfield 178, 3) := by decide +kernel
theorem dX13_unmap_132 : decode cX13_unmap 132 = .ok (.iload 6, 2) := by decide +kernel
theorem dX13_unmap_134 : decode cX13_unmap 134 = .ok (.aload_n 0, 1) := by decide +kernel
theorem dX13_unmap_135 : decode cX13_unmap 135 = .ok (.getfield 178, 3) := by decide +kernel
theorem dX13_unmap_138 : decode cX13_unmap 138 = .ok (.iload 6, 2) := by decide +kernel
theorem dX13_unmap_140 : decode cX13_unmap 140 = .ok (.iconst 1, 1) := by decide +kernel
theorem dX13_unmap_141 : decode cX13_unmap 141 = .ok (.iadd, 1) := by decide +kernel
theorem dX13_unmap_142 : decode cX13_unmap 142 = .ok (.baload, 1) := by decide +kernel
theorem dX13_unmap_143 : decode cX13_unmap 143 = .ok (.bastore, 1) := by decide +kernel
theorem dX13_unmap_144 : decode cX13_unmap 144 = .ok (.iconst 0, 1) := by decide +kernel
theorem dX13_unmap_145 : decode cX13_unmap 145 = .ok (.istore 7, 2) := by decide +kernel
theorem dX13_unmap_147 : decode cX13_unmap 147 = .ok (.iload 7, 2) := by decide +kernel
theorem dX13_unmap_149 : decode cX13_unmap 149 = .ok (.iconst 4, 1) := by decide +kernel
theorem dX13_unmap_150 : decode cX13_unmap 150 = .ok (.if_icmp .ge 35, 3) := by decide +kernel
theorem dX13_unmap_153 : decode cX13_unmap 153 = .ok (.aload_n 0, 1) := by decide +kernel
theorem dX13_unmap_154 : decode cX13_unmap 154 = .ok (.getfield 172, 3) := by decide +kernel
theorem dX13_unmap_157 : decode cX13_unmap 157 = .ok (.iconst 4, 1) := by decide +kernel
theorem dX13_unmap_158 : decode cX13_unmap 158 = .ok (.iload 6, 2) := by decide +kernel
theorem dX13_unmap_160 : decode cX13_unmap 160 = .ok (.imul, 1) := by decide +kernel
theorem dX13_unmap_161 : decode cX13_unmap 161 = .ok (.iload 7, 2) := by decide +kernel
theorem dX13_unmap_163 : decode cX13_unmap 163 = .ok (.iadd, 1) := by decide +kernel
theorem dX13_unmap_164 : decode cX13_unmap 164 = .ok (.aload_n 0, 1) := by decide +kernel
theorem dX13_unmap_165 : decode cX13_unmap 165 = .ok (.getfield 172, 3) := by decide +kernel
theorem dX13_unmap_168 : decode cX13_unmap 168 = .ok (.iconst 4, 1) := by decide +kernel
theorem dX13_unmap_169 : decode cX13_unmap 169 = .ok (.iload 6, 2) := by decide +kernel
theorem dX13_unmap_171 : decode cX13_unmap 171 = .ok (.iconst 1, 1) := by decide +kernel
theorem dX13_unmap_172 : decode cX13_unmap 172 = .ok (.iadd, 1) := by decide +kernel
theorem dX13_unmap_173 : decode cX13_unmap 173 = .ok (.imul, 1) := by decide +kernel
theorem dX13_unmap_174 : decode cX13_unmap 174 = .ok (.iload 7, 2) := by decide +kernel
theorem dX13_unmap_176 : decode cX13_unmap 176 = .ok (.iadd, 1) := by decide +kernel
theorem dX13_unmap_177 : decode cX13_unmap 177 = .ok (.iaload, 1) := by decide +kernel
theorem dX13_unmap_178 : decode cX13_unmap 178 = .ok (.iastore, 1) := by decide +kernel
theorem dX13_unmap_179 : decode cX13_unmap 179 = .ok (.iinc 7 1, 3) := by decide +kernel
theorem dX13_unmap_182 : decode cX13_unmap 182 = .ok (.goto (-35), 3) := by decide +kernel
theorem dX13_unmap_185 : decode cX13_unmap 185 = .ok (.iconst 0, 1) := by decide +kernel
theorem dX13_unmap_186 : decode cX13_unmap 186 = .ok (.istore 7, 2) := by decide +kernel
theorem dX13_unmap_188 : decode cX13_unmap 188 = .ok (.iload 7, 2) := by decide +kernel
theorem dX13_unmap_190 : decode cX13_unmap 190 = .ok (.bipush 9, 2) := by decide +kernel
theorem dX13_unmap_192 : decode cX13_unmap 192 = .ok (.if_icmp .ge 37, 3) := by decide +kernel
theorem dX13_unmap_195 : decode cX13_unmap 195 = .ok (.aload_n 0, 1) := by decide +kernel
theorem dX13_unmap_196 : decode cX13_unmap 196 = .ok (.getfield 175, 3) := by decide +kernel
theorem dX13_unmap_199 : decode cX13_unmap 199 = .ok (.bipush 9, 2) := by decide +kernel
theorem dX13_unmap_201 : decode cX13_unmap 201 = .ok (.iload 6, 2) := by decide +kernel
theorem dX13_unmap_203 : decode cX13_unmap 203 = .ok (.imul, 1) := by decide +kernel
theorem dX13_unmap_204 : decode cX13_unmap 204 = .ok (.iload 7, 2) := by decide +kernel
theorem dX13_unmap_206 : decode cX13_unmap 206 = .ok (.iadd, 1) := by decide +kernel
theorem dX13_unmap_207 : decode cX13_unmap 207 = .ok (.aload_n 0, 1) := by decide +kernel
theorem dX13_unmap_208 : decode cX13_unmap 208 = .ok (.getfield 175, 3) := by decide +kernel
theorem dX13_unmap_211 : decode cX13_unmap 211 = .ok (.bipush 9, 2) := by decide +kernel
theorem dX13_unmap_213 : decode cX13_unmap 213 = .ok (.iload 6, 2) := by decide +kernel
theorem dX13_unmap_215 : decode cX13_unmap 215 = .ok (.iconst 1, 1) := by decide +kernel
theorem dX13_unmap_216 : decode cX13_unmap 216 = .ok (.iadd, 1) := by decide +kernel
theorem dX13_unmap_217 : decode cX13_unmap 217 = .ok (.imul, 1) := by decide +kernel
theorem dX13_unmap_218 : decode cX13_unmap 218 = .ok (.iload 7, 2) := by decide +kernel
theorem dX13_unmap_220 : decode cX13_unmap 220 = .ok (.iadd, 1) := by decide +kernel
theorem dX13_unmap_221 : decode cX13_unmap 221 = .ok (.iaload, 1) := by decide +kernel
theorem dX13_unmap_222 : decode cX13_unmap 222 = .ok (.iastore, 1) := by decide +kernel
theorem dX13_unmap_223 : decode cX13_unmap 223 = .ok (.iinc 7 1, 3) := by decide +kernel
theorem dX13_unmap_226 : decode cX13_unmap 226 = .ok (.goto (-38), 3) := by decide +kernel
theorem dX13_unmap_229 : decode cX13_unmap 229 = .ok (.iinc 6 1, 3) := by decide +kernel
theorem dX13_unmap_232 : decode cX13_unmap 232 = .ok (.goto (-147), 3) := by decide +kernel
theorem dX13_unmap_235 : decode cX13_unmap 235 = .ok (.aload_n 0, 1) := by decide +kernel
theorem dX13_unmap_236 : decode cX13_unmap 236 = .ok (.dup, 1) := by decide +kernel
theorem dX13_unmap_237 : decode cX13_unmap 237 = .ok (.getfield 1006, 3) := by decide +kernel
theorem dX13_unmap_240 : decode cX13_unmap 240 = .ok (.iconst 1, 1) := by decide +kernel
theorem dX13_unmap_241 : decode cX13_unmap 241 = .ok (.isub, 1) := by decide +kernel
theorem dX13_unmap_242 : decode cX13_unmap 242 = .ok (.putfield 1006, 3) := by decide +kernel
theorem dX13_unmap_245 : decode cX13_unmap 245 = .ok (.aload_n 0, 1) := by decide +kernel
theorem dX13_unmap_246 : decode cX13_unmap 246 = .ok (.getfield 1006, 3) := by decide +kernel
theorem dX13_unmap_249 : decode cX13_unmap 249 = .ok (.ireturn, 1) := by decide +kernel
theorem dX13_isLine_0 : decode cX13_isLine 0 = .ok (.iload_n 1, 1) := by decide +kernel
theorem dX13_isLine_1 : decode cX13_isLine 1 = .ok (.iconst 0, 1) := by decide +kernel
theorem dX13_isLine_2 : decode cX13_isLine 2 = .ok (.aload_n 0, 1) := by decide +kernel
theorem dX13_isLine_3 : decode cX13_isLine 3 = .ok (.getfield 13, 3) := by decide +kernel
theorem dX13_isLine_6 : decode cX13_isLine 6 = .ok (.iconst 1, 1) := by decide +kernel
theorem dX13_isLine_7 : decode cX13_isLine 7 = .ok (.isub, 1) := by decide +kernel
theorem dX13_isLine_8 : decode cX13_isLine 8 = .ok (.invokestatic 198, 3) := by decide +kernel
theorem dX13_isLine_11 : decode cX13_isLine 11 = .ok (.ireturn, 1) := by decide +kernel
theorem dX13_sign_0 : decode cX13_sign 0 = .ok (.aload_n 0, 1) := by decide +kernel
theorem dX13_sign_1 : decode cX13_sign 1 = .ok (.aload_n 0, 1) := by decide +kernel
theorem dX13_sign_2 : decode cX13_sign 2 = .ok (.iload_n 1, 1) := by decide +kernel
theorem dX13_sign_3 : decode cX13_sign 3 = .ok (.invokevirtual 1070, 3) := by decide +kernel
theorem dX13_sign_6 : decode cX13_sign 6 = .ok (.ifCond .eq 23, 3) := by decide +kernel
theorem dX13_sign_9 : decode cX13_sign 9 = .ok (.iload_n 2, 1) := by decide +kernel
theorem dX13_sign_10 : decode cX13_sign 10 = .ok (.iconst 0, 1) := by decide +kernel
theorem dX13_sign_11 : decode cX13_sign 11 = .ok (.aload_n 0, 1) := by decide +kernel
theorem dX13_sign_12 : decode cX13_sign 12 = .ok (.getfield 17, 3) := by decide +kernel
theorem dX13_sign_15 : decode cX13_sign 15 = .ok (.iload_n 1, 1) := by decide +kernel
theorem dX13_sign_16 : decode cX13_sign 16 = .ok (.iaload, 1) := by decide +kernel
theorem dX13_sign_17 : decode cX13_sign 17 = .ok (.iconst 1, 1) := by decide +kernel
theorem dX13_sign_18 : decode cX13_sign 18 = .ok (.isub, 1) := by decide +kernel
theorem dX13_sign_19 : decode cX13_sign 19 = .ok (.invokestatic 198, 3) := by decide +kernel
theorem dX13_sign_22 : decode cX13_sign 22 = .ok (.ifCond .eq 7, 3) := by decide +kernel
theorem dX13_sign_25 : decode cX13_sign 25 = .ok (.iconst 0, 1) := by decide +kernel
theorem dX13_sign_26 : decode cX13_sign 26 = .ok (.goto 4, 3) := by decide +kernel
theorem dX13_sign_29 : decode cX13_sign 29 = .ok (.iconst 1, 1) := by decide +kernel
theorem dX13_sign_30 : decode cX13_sign 30 = .ok (.invokevirtual 1043, 3) := by decide +kernel
theorem dX13_sign_33 : decode cX13_sign 33 = .ok (.ifCond .eq 13, 3) := by decide +kernel
theorem dX13_sign_36 : decode cX13_sign 36 = .ok (.aload_n 0, 1) := by decide +kernel
theorem dX13_sign_37 : decode cX13_sign 37 = .ok (.iload_n 1, 1) := by decide +kernel
theorem dX13_sign_38 : decode cX13_sign 38 = .ok (.iload_n 2, 1) := by decide +kernel
theorem dX13_sign_39 : decode cX13_sign 39 = .ok (.invokevirtual 206, 3) := by decide +kernel
theorem dX13_sign_42 : decode cX13_sign 42 = .ok (.i2c, 1) := by decide +kernel
theorem dX13_sign_43 : decode cX13_sign 43 = .ok (.goto 5, 3) := by decide +kernel
theorem dX13_sign_46 : decode cX13_sign 46 = .ok (.bipush 32, 2) := by decide +kernel
theorem dX13_sign_48 : decode cX13_sign 48 = .ok (.ireturn, 1) := by decide +kernel
theorem dX13_isRegister_0 : decode cX13_isRegister 0 = .ok (.iload_n 0, 1) := by decide +kernel
theorem dX13_isRegister_1 : decode cX13_isRegister 1 = .ok (.bipush 97, 2) := by decide +kernel
theorem dX13_isRegister_3 : decode cX13_isRegister 3 = .ok (.bipush 122, 2) := by decide +kernel
theorem dX13_isRegister_5 : decode cX13_isRegister 5 = .ok (.invokestatic 198, 3) := by decide +kernel
theorem dX13_isRegister_8 : decode cX13_isRegister 8 = .ok (.ifCond .ne 26, 3) := by decide +kernel
theorem dX13_isRegister_11 : decode cX13_isRegister 11 = .ok (.iload_n 0, 1) := by decide +kernel
theorem dX13_isRegister_12 : decode cX13_isRegister 12 = .ok (.bipush 48, 2) := by decide +kernel
theorem dX13_isRegister_14 : decode cX13_isRegister 14 = .ok (.bipush 57, 2) := by decide +kernel
theorem dX13_isRegister_16 : decode cX13_isRegister 16 = .ok (.invokestatic 198, 3) := by decide +kernel
theorem dX13_isRegister_19 : decode cX13_isRegister 19 = .ok (.ifCond .ne 15, 3) := by decide +kernel
theorem dX13_isRegister_22 : decode cX13_isRegister 22 = .ok (.iload_n 0, 1) := by decide +kernel
theorem dX13_isRegister_23 : decode cX13_isRegister 23 = .ok (.bipush 45, 2) := by decide +kernel
theorem dX13_isRegister_25 : decode cX13_isRegister 25 = .ok (.if_icmp .eq 9, 3) := by decide +kernel
theorem dX13_isRegister_28 : decode cX13_isRegister 28 = .ok (.iload_n 0, 1) := by decide +kernel
theorem dX13_isRegister_29 : decode cX13_isRegister 29 = .ok (.bipush 34, 2) := by decide +kernel
theorem dX13_isRegister_31 : decode cX13_isRegister 31 = .ok (.if_icmp .ne 7, 3) := by decide +kernel
theorem dX13_isRegister_34 : decode cX13_isRegister 34 = .ok (.iconst 1, 1) := by decide +kernel
theorem dX13_isRegister_35 : decode cX13_isRegister 35 = .ok (.goto 4, 3) := by decide +kernel
theorem dX13_isRegister_38 : decode cX13_isRegister 38 = .ok (.iconst 0, 1) := by decide +kernel
theorem dX13_isRegister_39 : decode cX13_isRegister 39 = .ok (.ireturn, 1) := by decide +kernel
theorem dX13_registerAt_0 : decode cX13_registerAt 0 = .ok (.iload_n 1, 1) := by decide +kernel
theorem dX13_registerAt_1 : decode cX13_registerAt 1 = .ok (.invokestatic 1073, 3) := by decide +kernel
theorem dX13_registerAt_4 : decode cX13_registerAt 4 = .ok (.istore_n 3, 1) := by decide +kernel
theorem dX13_registerAt_5 : decode cX13_registerAt 5 = .ok (.iload_n 3, 1) := by decide +kernel
theorem dX13_registerAt_6 : decode cX13_registerAt 6 = .ok (.ifCond .eq 26, 3) := by decide +kernel
theorem dX13_registerAt_9 : decode cX13_registerAt 9 = .ok (.iload_n 2, 1) := by decide +kernel
theorem dX13_registerAt_10 : decode cX13_registerAt 10 = .ok (.iconst 0, 1) := by decide +kernel
theorem dX13_registerAt_11 : decode cX13_registerAt 11 = .ok (.aload_n 0, 1) := by decide +kernel
theorem dX13_registerAt_12 : decode cX13_registerAt 12 = .ok (.getfield 26, 3) := by decide +kernel
theorem dX13_registerAt_15 : decode cX13_registerAt 15 = .ok (.iload_n 1, 1) := by decide +kernel
theorem dX13_registerAt_16 : decode cX13_registerAt 16 = .ok (.invokestatic 457, 3) := by decide +kernel
theorem dX13_registerAt_19 : decode cX13_registerAt 19 = .ok (.iaload, 1) := by decide +kernel
theorem dX13_registerAt_20 : decode cX13_registerAt 20 = .ok (.iconst 1, 1) := by decide +kernel
theorem dX13_registerAt_21 : decode cX13_registerAt 21 = .ok (.isub, 1) := by decide +kernel
theorem dX13_registerAt_22 : decode cX13_registerAt 22 = .ok (.invokestatic 198, 3) := by decide +kernel
theorem dX13_registerAt_25 : decode cX13_registerAt 25 = .ok (.ifCond .eq 7, 3) := by decide +kernel
theorem dX13_registerAt_28 : decode cX13_registerAt 28 = .ok (.iconst 1, 1) := by decide +kernel
theorem dX13_registerAt_29 : decode cX13_registerAt 29 = .ok (.goto 4, 3) := by decide +kernel
theorem dX13_registerAt_32 : decode cX13_registerAt 32 = .ok (.iconst 0, 1) := by decide +kernel
theorem dX13_registerAt_33 : decode cX13_registerAt 33 = .ok (.istore 4, 2) := by decide +kernel
theorem dX13_registerAt_35 : decode cX13_registerAt 35 = .ok (.aload_n 0, 1) := by decide +kernel
theorem dX13_registerAt_36 : decode cX13_registerAt 36 = .ok (.iload_n 3, 1) := by decide +kernel
theorem dX13_registerAt_37 : decode cX13_registerAt 37 = .ok (.ifCond .ne 7, 3) := by decide +kernel
theorem dX13_registerAt_40 : decode cX13_registerAt 40 = .ok (.iconst 1, 1) := by decide +kernel
theorem dX13_registerAt_41 : decode cX13_registerAt 41 = .ok (.goto 13, 3) := by decide +kernel
theorem dX13_registerAt_44 : decode cX13_registerAt 44 = .ok (.iload 4, 2) := by decide +kernel
theorem dX13_registerAt_46 : decode cX13_registerAt 46 = .ok (.ifCond .eq 7, 3) := by decide +kernel
theorem dX13_registerAt_49 : decode cX13_registerAt 49 = .ok (.iconst 0, 1) := by decide +kernel
theorem dX13_registerAt_50 : decode cX13_registerAt 50 = .ok (.goto 4, 3) := by decide +kernel
theorem dX13_registerAt_53 : decode cX13_registerAt 53 = .ok (.iconst 2, 1) := by decide +kernel
theorem dX13_registerAt_54 : decode cX13_registerAt 54 = .ok (.invokevirtual 1043, 3) := by decide +kernel
theorem dX13_registerAt_57 : decode cX13_registerAt 57 = .ok (.ifCond .eq 22, 3) := by decide +kernel
theorem dX13_registerAt_60 : decode cX13_registerAt 60 = .ok (.aload_n 0, 1) := by decide +kernel
theorem dX13_registerAt_61 : decode cX13_registerAt 61 = .ok (.getfield 30, 3) := by decide +kernel
theorem dX13_registerAt_64 : decode cX13_registerAt 64 = .ok (.sipush 3000, 3) := by decide +kernel
theorem dX13_registerAt_67 : decode cX13_registerAt 67 = .ok (.iload_n 1, 1) := by decide +kernel
theorem dX13_registerAt_68 : decode cX13_registerAt 68 = .ok (.invokestatic 457, 3) := by decide +kernel
theorem dX13_registerAt_71 : decode cX13_registerAt 71 = .ok (.imul, 1) := by decide +kernel
theorem dX13_registerAt_72 : decode cX13_registerAt 72 = .ok (.iload_n 2, 1) := by decide +kernel
theorem dX13_registerAt_73 : decode cX13_registerAt 73 = .ok (.iadd, 1) := by decide +kernel
theorem dX13_registerAt_74 : decode cX13_registerAt 74 = .ok (.iaload, 1) := by decide +kernel
theorem dX13_registerAt_75 : decode cX13_registerAt 75 = .ok (.i2c, 1) := by decide +kernel
theorem dX13_registerAt_76 : decode cX13_registerAt 76 = .ok (.goto 5, 3) := by decide +kernel
theorem dX13_registerAt_79 : decode cX13_registerAt 79 = .ok (.bipush 32, 2) := by decide +kernel
theorem dX13_registerAt_81 : decode cX13_registerAt 81 = .ok (.ireturn, 1) := by decide +kernel
theorem dX3_indexOf_0 : decode cX3_indexOf 0 = .ok (.iconst 0, 1) := by decide +kernel
theorem dX3_indexOf_1 : decode cX3_indexOf 1 = .ok (.istore 4, 2) := by decide +kernel
theorem dX3_indexOf_3 : decode cX3_indexOf 3 = .ok (.iload 4, 2) := by decide +kernel
theorem dX3_indexOf_5 : decode cX3_indexOf 5 = .ok (.aload_n 0, 1) := by decide +kernel
theorem dX3_indexOf_6 : decode cX3_indexOf 6 = .ok (.getfield 26, 3) := by decide +kernel
theorem dX3_indexOf_9 : decode cX3_indexOf 9 = .ok (.if_icmp .ge 35, 3) := by decide +kernel
theorem dX3_indexOf_12 : decode cX3_indexOf 12 = .ok (.aload_n 0, 1) := by decide +kernel
theorem dX3_indexOf_13 : decode cX3_indexOf 13 = .ok (.getfield 11, 3) := by decide +kernel
theorem dX3_indexOf_16 : decode cX3_indexOf 16 = .ok (.iload 4, 2) := by decide +kernel
theorem dX3_indexOf_18 : decode cX3_indexOf 18 = .ok (.iaload, 1) := by decide +kernel
theorem dX3_indexOf_19 : decode cX3_indexOf 19 = .ok (.iload_n 1, 1) := by decide +kernel
theorem dX3_indexOf_20 : decode cX3_indexOf 20 = .ok (.if_icmp .ne 18, 3) := by decide +kernel
theorem dX3_indexOf_23 : decode cX3_indexOf 23 = .ok (.aload_n 0, 1) := by decide +kernel
theorem dX3_indexOf_24 : decode cX3_indexOf 24 = .ok (.getfield 15, 3) := by decide +kernel
theorem dX3_indexOf_27 : decode cX3_indexOf 27 = .ok (.iload 4, 2) := by decide +kernel
theorem dX3_indexOf_29 : decode cX3_indexOf 29 = .ok (.laload, 1) := by decide +kernel
theorem dX3_indexOf_30 : decode cX3_indexOf 30 = .ok (.lload_n 2, 1) := by decide +kernel
theorem dX3_indexOf_31 : decode cX3_indexOf 31 = .ok (.lcmp, 1) := by decide +kernel
theorem dX3_indexOf_32 : decode cX3_indexOf 32 = .ok (.ifCond .ne 6, 3) := by decide +kernel
theorem dX3_indexOf_35 : decode cX3_indexOf 35 = .ok (.iload 4, 2) := by decide +kernel
theorem dX3_indexOf_37 : decode cX3_indexOf 37 = .ok (.ireturn, 1) := by decide +kernel
theorem dX3_indexOf_38 : decode cX3_indexOf 38 = .ok (.iinc 4 1, 3) := by decide +kernel
theorem dX3_indexOf_41 : decode cX3_indexOf 41 = .ok (.goto (-38), 3) := by decide +kernel
theorem dX3_indexOf_44 : decode cX3_indexOf 44 = .ok (.iconst (-1), 1) := by decide +kernel
theorem dX3_indexOf_45 : decode cX3_indexOf 45 = .ok (.ireturn, 1) := by decide +kernel
theorem dX3_begins_0 : decode cX3_begins 0 = .ok (.iconst 0, 1) := by decide +kernel
theorem dX3_begins_1 : decode cX3_begins 1 = .ok (.istore 4, 2) := by decide +kernel
theorem dX3_begins_3 : decode cX3_begins 3 = .ok (.iload 4, 2) := by decide +kernel
theorem dX3_begins_5 : decode cX3_begins 5 = .ok (.iload_n 3, 1) := by decide +kernel
theorem dX3_begins_6 : decode cX3_begins 6 = .ok (.if_icmp .ge 36, 3) := by decide +kernel
theorem dX3_begins_9 : decode cX3_begins 9 = .ok (.iload 4, 2) := by decide +kernel
theorem dX3_begins_11 : decode cX3_begins 11 = .ok (.aload_n 0, 1) := by decide +kernel
theorem dX3_begins_12 : decode cX3_begins 12 = .ok (.getfield 36, 3) := by decide +kernel
theorem dX3_begins_15 : decode cX3_begins 15 = .ok (.if_icmp .ge 19, 3) := by decide +kernel
theorem dX3_begins_18 : decode cX3_begins 18 = .ok (.aload_n 0, 1) := by decide +kernel
theorem dX3_begins_19 : decode cX3_begins 19 = .ok (.getfield 30, 3) := by decide +kernel
theorem dX3_begins_22 : decode cX3_begins 22 = .ok (.iload 4, 2) := by decide +kernel
theorem dX3_begins_24 : decode cX3_begins 24 = .ok (.iaload, 1) := by decide +kernel
theorem dX3_begins_25 : decode cX3_begins 25 = .ok (.lload_n 1, 1) := by decide +kernel
theorem dX3_begins_26 : decode cX3_begins 26 = .ok (.iload 4, 2) := by decide +kernel
theorem dX3_begins_28 : decode cX3_begins 28 = .ok (.invokestatic 98, 3) := by decide +kernel
theorem dX3_begins_31 : decode cX3_begins 31 = .ok (.if_icmp .eq 5, 3) := by decide +kernel
theorem dX3_begins_34 : decode cX3_begins 34 = .ok (.iconst 0, 1) := by decide +kernel
theorem dX3_begins_35 : decode cX3_begins 35 = .ok (.ireturn, 1) := by decide +kernel
theorem dX3_begins_36 : decode cX3_begins 36 = .ok (.iinc 4 1, 3) := by decide +kernel
theorem dX3_begins_39 : decode cX3_begins 39 = .ok (.goto (-36), 3) := by decide +kernel
theorem dX3_begins_42 : decode cX3_begins 42 = .ok (.iconst 1, 1) := by decide +kernel
theorem dX3_begins_43 : decode cX3_begins 43 = .ok (.ireturn, 1) := by decide +kernel
theorem dX3_width_0 : decode cX3_width 0 = .ok (.iconst 0, 1) := by decide +kernel
theorem dX3_width_1 : decode cX3_width 1 = .ok (.istore_n 2, 1) := by decide +kernel
theorem dX3_width_2 : decode cX3_width 2 = .ok (.iload_n 2, 1) := by decide +kernel
theorem dX3_width_3 : decode cX3_width 3 = .ok (.bipush 8, 2) := by decide +kernel
theorem dX3_width_5 : decode cX3_width 5 = .ok (.if_icmp .ge 17, 3) := by decide +kernel
theorem dX3_width_8 : decode cX3_width 8 = .ok (.lload_n 0, 1) := by decide +kernel
theorem dX3_width_9 : decode cX3_width 9 = .ok (.iload_n 2, 1) := by decide +kernel
theorem dX3_width_10 : decode cX3_width 10 = .ok (.invokestatic 98, 3) := by decide +kernel
theorem dX3_width_13 : decode cX3_width 13 = .ok (.ifCond .eq 9, 3) := by decide +kernel
theorem dX3_width_16 : decode cX3_width 16 = .ok (.iinc 2 1, 3) := by decide +kernel
theorem dX3_width_19 : decode cX3_width 19 = .ok (.goto (-17), 3) := by decide +kernel
theorem dX3_width_22 : decode cX3_width 22 = .ok (.iload_n 2, 1) := by decide +kernel
theorem dX3_width_23 : decode cX3_width 23 = .ok (.ireturn, 1) := by decide +kernel
theorem dX12_byteOf_0 : decode cX12_byteOf 0 = .ok (.lload_n 0, 1) := by decide +kernel
theorem dX12_byteOf_1 : decode cX12_byteOf 1 = .ok (.bipush 8, 2) := by decide +kernel
theorem dX12_byteOf_3 : decode cX12_byteOf 3 = .ok (.iload_n 2, 1) := by decide +kernel
theorem dX12_byteOf_4 : decode cX12_byteOf 4 = .ok (.imul, 1) := by decide +kernel
theorem dX12_byteOf_5 : decode cX12_byteOf 5 = .ok (.lushr, 1) := by decide +kernel
theorem dX12_byteOf_6 : decode cX12_byteOf 6 = .ok (.l2i, 1) := by decide +kernel
theorem dX12_byteOf_7 : decode cX12_byteOf 7 = .ok (.sipush 255, 3) := by decide +kernel
theorem dX12_byteOf_10 : decode cX12_byteOf 10 = .ok (.iand, 1) := by decide +kernel
theorem dX12_byteOf_11 : decode cX12_byteOf 11 = .ok (.ireturn, 1) := by decide +kernel

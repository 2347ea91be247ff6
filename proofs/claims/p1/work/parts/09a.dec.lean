theorem dX0_init_0 : decode cX0_init 0 = .ok (.aload_n 0, 1) := by decide +kernel
theorem dX0_init_1 : decode cX0_init 1 = .ok (.invokespecial 3, 3) := by decide +kernel
theorem dX0_init_4 : decode cX0_init 4 = .ok (.aload_n 0, 1) := by decide +kernel
theorem dX0_init_5 : decode cX0_init 5 = .ok (.new 9, 3) := by decide +kernel
theorem dX0_init_8 : decode cX0_init 8 = .ok (.dup, 1) := by decide +kernel
theorem dX0_init_9 : decode cX0_init 9 = .ok (.iconst 0, 1) := by decide +kernel
theorem dX0_init_10 : decode cX0_init 10 = .ok (.invokespecial 11, 3) := by decide +kernel
theorem dX0_init_13 : decode cX0_init 13 = .ok (.putfield 14, 3) := by decide +kernel
theorem dX0_init_16 : decode cX0_init 16 = .ok (.return_, 1) := by decide +kernel
theorem dX3_init_0 : decode cX3_init 0 = .ok (.aload_n 0, 1) := by decide +kernel
theorem dX3_init_1 : decode cX3_init 1 = .ok (.invokespecial 3, 3) := by decide +kernel
theorem dX3_init_4 : decode cX3_init 4 = .ok (.aload_n 0, 1) := by decide +kernel
theorem dX3_init_5 : decode cX3_init 5 = .ok (.bipush 12, 2) := by decide +kernel
theorem dX3_init_7 : decode cX3_init 7 = .ok (.newarray .int, 2) := by decide +kernel
theorem dX3_init_9 : decode cX3_init 9 = .ok (.putfield 11, 3) := by decide +kernel
theorem dX3_init_12 : decode cX3_init 12 = .ok (.aload_n 0, 1) := by decide +kernel
theorem dX3_init_13 : decode cX3_init 13 = .ok (.bipush 12, 2) := by decide +kernel
theorem dX3_init_15 : decode cX3_init 15 = .ok (.newarray .long, 2) := by decide +kernel
theorem dX3_init_17 : decode cX3_init 17 = .ok (.putfield 15, 3) := by decide +kernel
theorem dX3_init_20 : decode cX3_init 20 = .ok (.aload_n 0, 1) := by decide +kernel
theorem dX3_init_21 : decode cX3_init 21 = .ok (.bipush 12, 2) := by decide +kernel
theorem dX3_init_23 : decode cX3_init 23 = .ok (.newarray .long, 2) := by decide +kernel
theorem dX3_init_25 : decode cX3_init 25 = .ok (.putfield 19, 3) := by decide +kernel
theorem dX3_init_28 : decode cX3_init 28 = .ok (.aload_n 0, 1) := by decide +kernel
theorem dX3_init_29 : decode cX3_init 29 = .ok (.bipush 12, 2) := by decide +kernel
theorem dX3_init_31 : decode cX3_init 31 = .ok (.newarray .boolean, 2) := by decide +kernel
theorem dX3_init_33 : decode cX3_init 33 = .ok (.putfield 22, 3) := by decide +kernel
theorem dX3_init_36 : decode cX3_init 36 = .ok (.aload_n 0, 1) := by decide +kernel
theorem dX3_init_37 : decode cX3_init 37 = .ok (.iconst 0, 1) := by decide +kernel
theorem dX3_init_38 : decode cX3_init 38 = .ok (.putfield 26, 3) := by decide +kernel
theorem dX3_init_41 : decode cX3_init 41 = .ok (.aload_n 0, 1) := by decide +kernel
theorem dX3_init_42 : decode cX3_init 42 = .ok (.sipush 512, 3) := by decide +kernel
theorem dX3_init_45 : decode cX3_init 45 = .ok (.newarray .int, 2) := by decide +kernel
theorem dX3_init_47 : decode cX3_init 47 = .ok (.putfield 30, 3) := by decide +kernel
theorem dX3_init_50 : decode cX3_init 50 = .ok (.aload_n 0, 1) := by decide +kernel
theorem dX3_init_51 : decode cX3_init 51 = .ok (.sipush 512, 3) := by decide +kernel
theorem dX3_init_54 : decode cX3_init 54 = .ok (.newarray .int, 2) := by decide +kernel
theorem dX3_init_56 : decode cX3_init 56 = .ok (.putfield 33, 3) := by decide +kernel
theorem dX3_init_59 : decode cX3_init 59 = .ok (.aload_n 0, 1) := by decide +kernel
theorem dX3_init_60 : decode cX3_init 60 = .ok (.iconst 0, 1) := by decide +kernel
theorem dX3_init_61 : decode cX3_init 61 = .ok (.putfield 36, 3) := by decide +kernel
theorem dX3_init_64 : decode cX3_init 64 = .ok (.aload_n 0, 1) := by decide +kernel
theorem dX3_init_65 : decode cX3_init 65 = .ok (.iconst 0, 1) := by decide +kernel
theorem dX3_init_66 : decode cX3_init 66 = .ok (.putfield 39, 3) := by decide +kernel
theorem dX3_init_69 : decode cX3_init 69 = .ok (.aload_n 0, 1) := by decide +kernel
theorem dX3_init_70 : decode cX3_init 70 = .ok (.iconst 0, 1) := by decide +kernel
theorem dX3_init_71 : decode cX3_init 71 = .ok (.putfield 42, 3) := by decide +kernel
theorem dX3_init_74 : decode cX3_init 74 = .ok (.aload_n 0, 1) := by decide +kernel
theorem dX3_init_75 : decode cX3_init 75 = .ok (.iconst 0, 1) := by decide +kernel
theorem dX3_init_76 : decode cX3_init 76 = .ok (.putfield 45, 3) := by decide +kernel
theorem dX3_init_79 : decode cX3_init 79 = .ok (.aload_n 0, 1) := by decide +kernel
theorem dX3_init_80 : decode cX3_init 80 = .ok (.iconst 0, 1) := by decide +kernel
theorem dX3_init_81 : decode cX3_init 81 = .ok (.putfield 49, 3) := by decide +kernel
theorem dX3_init_84 : decode cX3_init 84 = .ok (.return_, 1) := by decide +kernel
theorem dX9_clear_0 : decode cX9_clear 0 = .ok (.aload_n 0, 1) := by decide +kernel
theorem dX9_clear_1 : decode cX9_clear 1 = .ok (.iconst 0, 1) := by decide +kernel
theorem dX9_clear_2 : decode cX9_clear 2 = .ok (.putfield 21, 3) := by decide +kernel
theorem dX9_clear_5 : decode cX9_clear 5 = .ok (.aload_n 0, 1) := by decide +kernel
theorem dX9_clear_6 : decode cX9_clear 6 = .ok (.iconst (-1), 1) := by decide +kernel
theorem dX9_clear_7 : decode cX9_clear 7 = .ok (.putfield 25, 3) := by decide +kernel
theorem dX9_clear_10 : decode cX9_clear 10 = .ok (.return_, 1) := by decide +kernel
theorem dX9_add_0 : decode cX9_add 0 = .ok (.aload_n 0, 1) := by decide +kernel
theorem dX9_add_1 : decode cX9_add 1 = .ok (.getfield 21, 3) := by decide +kernel
theorem dX9_add_4 : decode cX9_add 4 = .ok (.bipush 99, 2) := by decide +kernel
theorem dX9_add_6 : decode cX9_add 6 = .ok (.if_icmp .lt 7, 3) := by decide +kernel
theorem dX9_add_9 : decode cX9_add 9 = .ok (.aload_n 0, 1) := by decide +kernel
theorem dX9_add_10 : decode cX9_add 10 = .ok (.invokevirtual 28, 3) := by decide +kernel
theorem dX9_add_13 : decode cX9_add 13 = .ok (.aload_n 0, 1) := by decide +kernel
theorem dX9_add_14 : decode cX9_add 14 = .ok (.getfield 13, 3) := by decide +kernel
theorem dX9_add_17 : decode cX9_add 17 = .ok (.aload_n 0, 1) := by decide +kernel
theorem dX9_add_18 : decode cX9_add 18 = .ok (.getfield 21, 3) := by decide +kernel
theorem dX9_add_21 : decode cX9_add 21 = .ok (.aaload, 1) := by decide +kernel
theorem dX9_add_22 : decode cX9_add 22 = .ok (.ifnonnull 20, 3) := by decide +kernel
theorem dX9_add_25 : decode cX9_add 25 = .ok (.aload_n 0, 1) := by decide +kernel
theorem dX9_add_26 : decode cX9_add 26 = .ok (.getfield 13, 3) := by decide +kernel
theorem dX9_add_29 : decode cX9_add 29 = .ok (.aload_n 0, 1) := by decide +kernel
theorem dX9_add_30 : decode cX9_add 30 = .ok (.getfield 21, 3) := by decide +kernel
theorem dX9_add_33 : decode cX9_add 33 = .ok (.new 11, 3) := by decide +kernel
theorem dX9_add_36 : decode cX9_add 36 = .ok (.dup, 1) := by decide +kernel
theorem dX9_add_37 : decode cX9_add 37 = .ok (.aconst_null, 1) := by decide +kernel
theorem dX9_add_38 : decode cX9_add 38 = .ok (.invokespecial 31, 3) := by decide +kernel
theorem dX9_add_41 : decode cX9_add 41 = .ok (.aastore, 1) := by decide +kernel
theorem dX9_add_42 : decode cX9_add 42 = .ok (.aload_n 0, 1) := by decide +kernel
theorem dX9_add_43 : decode cX9_add 43 = .ok (.getfield 13, 3) := by decide +kernel
theorem dX9_add_46 : decode cX9_add 46 = .ok (.aload_n 0, 1) := by decide +kernel
theorem dX9_add_47 : decode cX9_add 47 = .ok (.getfield 21, 3) := by decide +kernel
theorem dX9_add_50 : decode cX9_add 50 = .ok (.aaload, 1) := by decide +kernel
theorem dX9_add_51 : decode cX9_add 51 = .ok (.aload_n 1, 1) := by decide +kernel
theorem dX9_add_52 : decode cX9_add 52 = .ok (.invokevirtual 34, 3) := by decide +kernel
theorem dX9_add_55 : decode cX9_add 55 = .ok (.aload_n 0, 1) := by decide +kernel
theorem dX9_add_56 : decode cX9_add 56 = .ok (.getfield 17, 3) := by decide +kernel
theorem dX9_add_59 : decode cX9_add 59 = .ok (.aload_n 0, 1) := by decide +kernel
theorem dX9_add_60 : decode cX9_add 60 = .ok (.getfield 21, 3) := by decide +kernel
theorem dX9_add_63 : decode cX9_add 63 = .ok (.aload_n 0, 1) := by decide +kernel
theorem dX9_add_64 : decode cX9_add 64 = .ok (.getfield 25, 3) := by decide +kernel
theorem dX9_add_67 : decode cX9_add 67 = .ok (.iastore, 1) := by decide +kernel
theorem dX9_add_68 : decode cX9_add 68 = .ok (.aload_n 0, 1) := by decide +kernel
theorem dX9_add_69 : decode cX9_add 69 = .ok (.aload_n 0, 1) := by decide +kernel
theorem dX9_add_70 : decode cX9_add 70 = .ok (.getfield 21, 3) := by decide +kernel
theorem dX9_add_73 : decode cX9_add 73 = .ok (.putfield 25, 3) := by decide +kernel
theorem dX9_add_76 : decode cX9_add 76 = .ok (.aload_n 0, 1) := by decide +kernel
theorem dX9_add_77 : decode cX9_add 77 = .ok (.dup, 1) := by decide +kernel
theorem dX9_add_78 : decode cX9_add 78 = .ok (.getfield 21, 3) := by decide +kernel
theorem dX9_add_81 : decode cX9_add 81 = .ok (.iconst 1, 1) := by decide +kernel
theorem dX9_add_82 : decode cX9_add 82 = .ok (.iadd, 1) := by decide +kernel
theorem dX9_add_83 : decode cX9_add 83 = .ok (.putfield 21, 3) := by decide +kernel
theorem dX9_add_86 : decode cX9_add 86 = .ok (.return_, 1) := by decide +kernel
theorem dX10_init_0 : decode cX10_init 0 = .ok (.aload_n 0, 1) := by decide +kernel
theorem dX10_init_1 : decode cX10_init 1 = .ok (.invokespecial 3, 3) := by decide +kernel
theorem dX10_init_4 : decode cX10_init 4 = .ok (.aload_n 0, 1) := by decide +kernel
theorem dX10_init_5 : decode cX10_init 5 = .ok (.iconst 0, 1) := by decide +kernel
theorem dX10_init_6 : decode cX10_init 6 = .ok (.putfield 9, 3) := by decide +kernel
theorem dX10_init_9 : decode cX10_init 9 = .ok (.aload_n 0, 1) := by decide +kernel
theorem dX10_init_10 : decode cX10_init 10 = .ok (.iconst 0, 1) := by decide +kernel
theorem dX10_init_11 : decode cX10_init 11 = .ok (.putfield 15, 3) := by decide +kernel
theorem dX10_init_14 : decode cX10_init 14 = .ok (.aload_n 0, 1) := by decide +kernel
theorem dX10_init_15 : decode cX10_init 15 = .ok (.iload_n 1, 1) := by decide +kernel
theorem dX10_init_16 : decode cX10_init 16 = .ok (.ifCond .ge 7, 3) := by decide +kernel
theorem dX10_init_19 : decode cX10_init 19 = .ok (.iconst 0, 1) := by decide +kernel
theorem dX10_init_20 : decode cX10_init 20 = .ok (.goto 4, 3) := by decide +kernel
theorem dX10_init_23 : decode cX10_init 23 = .ok (.iload_n 1, 1) := by decide +kernel
theorem dX10_init_24 : decode cX10_init 24 = .ok (.newarray .char, 2) := by decide +kernel
theorem dX10_init_26 : decode cX10_init 26 = .ok (.putfield 18, 3) := by decide +kernel
theorem dX10_init_29 : decode cX10_init 29 = .ok (.return_, 1) := by decide +kernel
theorem dX11_init_0 : decode cX11_init 0 = .ok (.aload_n 0, 1) := by decide +kernel
theorem dX11_init_1 : decode cX11_init 1 = .ok (.invokespecial 3, 3) := by decide +kernel
theorem dX11_init_4 : decode cX11_init 4 = .ok (.aload_n 0, 1) := by decide +kernel
theorem dX11_init_5 : decode cX11_init 5 = .ok (.sipush 2400, 3) := by decide +kernel
theorem dX11_init_8 : decode cX11_init 8 = .ok (.newarray .char, 2) := by decide +kernel
theorem dX11_init_10 : decode cX11_init 10 = .ok (.putfield 9, 3) := by decide +kernel
theorem dX11_init_13 : decode cX11_init 13 = .ok (.aload_n 0, 1) := by decide +kernel
theorem dX11_init_14 : decode cX11_init 14 = .ok (.bipush 40, 2) := by decide +kernel
theorem dX11_init_16 : decode cX11_init 16 = .ok (.newarray .int, 2) := by decide +kernel
theorem dX11_init_18 : decode cX11_init 18 = .ok (.putfield 15, 3) := by decide +kernel
theorem dX11_init_21 : decode cX11_init 21 = .ok (.aload_n 0, 1) := by decide +kernel
theorem dX11_init_22 : decode cX11_init 22 = .ok (.bipush 40, 2) := by decide +kernel
theorem dX11_init_24 : decode cX11_init 24 = .ok (.newarray .int, 2) := by decide +kernel
theorem dX11_init_26 : decode cX11_init 26 = .ok (.putfield 19, 3) := by decide +kernel
theorem dX11_init_29 : decode cX11_init 29 = .ok (.aload_n 0, 1) := by decide +kernel
theorem dX11_init_30 : decode cX11_init 30 = .ok (.iconst 0, 1) := by decide +kernel
theorem dX11_init_31 : decode cX11_init 31 = .ok (.putfield 22, 3) := by decide +kernel
theorem dX11_init_34 : decode cX11_init 34 = .ok (.aload_n 0, 1) := by decide +kernel
theorem dX11_init_35 : decode cX11_init 35 = .ok (.iconst 1, 1) := by decide +kernel
theorem dX11_init_36 : decode cX11_init 36 = .ok (.putfield 26, 3) := by decide +kernel
theorem dX11_init_39 : decode cX11_init 39 = .ok (.aload_n 0, 1) := by decide +kernel
theorem dX11_init_40 : decode cX11_init 40 = .ok (.aload_n 1, 1) := by decide +kernel
theorem dX11_init_41 : decode cX11_init 41 = .ok (.putfield 29, 3) := by decide +kernel
theorem dX11_init_44 : decode cX11_init 44 = .ok (.return_, 1) := by decide +kernel
theorem dX11_copyOf_0 : decode cX11_copyOf 0 = .ok (.aload_n 1, 1) := by decide +kernel
theorem dX11_copyOf_1 : decode cX11_copyOf 1 = .ok (.getfield 9, 3) := by decide +kernel
theorem dX11_copyOf_4 : decode cX11_copyOf 4 = .ok (.iconst 0, 1) := by decide +kernel
theorem dX11_copyOf_5 : decode cX11_copyOf 5 = .ok (.aload_n 0, 1) := by decide +kernel
theorem dX11_copyOf_6 : decode cX11_copyOf 6 = .ok (.getfield 9, 3) := by decide +kernel
theorem dX11_copyOf_9 : decode cX11_copyOf 9 = .ok (.iconst 0, 1) := by decide +kernel
theorem dX11_copyOf_10 : decode cX11_copyOf 10 = .ok (.aload_n 0, 1) := by decide +kernel
theorem dX11_copyOf_11 : decode cX11_copyOf 11 = .ok (.getfield 9, 3) := by decide +kernel
theorem dX11_copyOf_14 : decode cX11_copyOf 14 = .ok (.arraylength, 1) := by decide +kernel
theorem dX11_copyOf_15 : decode cX11_copyOf 15 = .ok (.invokestatic 47, 3) := by decide +kernel
theorem dX11_copyOf_18 : decode cX11_copyOf 18 = .ok (.aload_n 1, 1) := by decide +kernel
theorem dX11_copyOf_19 : decode cX11_copyOf 19 = .ok (.getfield 15, 3) := by decide +kernel
theorem dX11_copyOf_22 : decode cX11_copyOf 22 = .ok (.iconst 0, 1) := by decide +kernel
theorem dX11_copyOf_23 : decode cX11_copyOf 23 = .ok (.aload_n 0, 1) := by decide +kernel
theorem dX11_copyOf_24 : decode cX11_copyOf 24 = .ok (.getfield 15, 3) := by decide +kernel
theorem dX11_copyOf_27 : decode cX11_copyOf 27 = .ok (.iconst 0, 1) := by decide +kernel
theorem dX11_copyOf_28 : decode cX11_copyOf 28 = .ok (.aload_n 0, 1) := by decide +kernel
theorem dX11_copyOf_29 : decode cX11_copyOf 29 = .ok (.getfield 15, 3) := by decide +kernel
theorem dX11_copyOf_32 : decode cX11_copyOf 32 = .ok (.arraylength, 1) := by decide +kernel
theorem dX11_copyOf_33 : decode cX11_copyOf 33 = .ok (.invokestatic 47, 3) := by decide +kernel
theorem dX11_copyOf_36 : decode cX11_copyOf 36 = .ok (.aload_n 0, 1) := by decide +kernel
theorem dX11_copyOf_37 : decode cX11_copyOf 37 = .ok (.aload_n 1, 1) := by decide +kernel
theorem dX11_copyOf_38 : decode cX11_copyOf 38 = .ok (.getfield 26, 3) := by decide +kernel
theorem dX11_copyOf_41 : decode cX11_copyOf 41 = .ok (.putfield 26, 3) := by decide +kernel
theorem dX11_copyOf_44 : decode cX11_copyOf 44 = .ok (.iconst 0, 1) := by decide +kernel
theorem dX11_copyOf_45 : decode cX11_copyOf 45 = .ok (.istore_n 2, 1) := by decide +kernel
theorem dX11_copyOf_46 : decode cX11_copyOf 46 = .ok (.iload_n 2, 1) := by decide +kernel
theorem dX11_copyOf_47 : decode cX11_copyOf 47 = .ok (.aload_n 0, 1) := by decide +kernel
theorem dX11_copyOf_48 : decode cX11_copyOf 48 = .ok (.getfield 26, 3) := by decide +kernel
theorem dX11_copyOf_51 : decode cX11_copyOf 51 = .ok (.if_icmp .ge 29, 3) := by decide +kernel
theorem dX11_copyOf_54 : decode cX11_copyOf 54 = .ok (.aload_n 0, 1) := by decide +kernel
theorem dX11_copyOf_55 : decode cX11_copyOf 55 = .ok (.dup, 1) := by decide +kernel
theorem dX11_copyOf_56 : decode cX11_copyOf 56 = .ok (.getfield 22, 3) := by decide +kernel
theorem dX11_copyOf_59 : decode cX11_copyOf 59 = .ok (.iconst 1, 1) := by decide +kernel
theorem dX11_copyOf_60 : decode cX11_copyOf 60 = .ok (.iadd, 1) := by decide +kernel
theorem dX11_copyOf_61 : decode cX11_copyOf 61 = .ok (.putfield 22, 3) := by decide +kernel
theorem dX11_copyOf_64 : decode cX11_copyOf 64 = .ok (.aload_n 0, 1) := by decide +kernel
theorem dX11_copyOf_65 : decode cX11_copyOf 65 = .ok (.getfield 19, 3) := by decide +kernel
theorem dX11_copyOf_68 : decode cX11_copyOf 68 = .ok (.iload_n 2, 1) := by decide +kernel
theorem dX11_copyOf_69 : decode cX11_copyOf 69 = .ok (.aload_n 0, 1) := by decide +kernel
theorem dX11_copyOf_70 : decode cX11_copyOf 70 = .ok (.getfield 22, 3) := by decide +kernel
theorem dX11_copyOf_73 : decode cX11_copyOf 73 = .ok (.iastore, 1) := by decide +kernel
theorem dX11_copyOf_74 : decode cX11_copyOf 74 = .ok (.iinc 2 1, 3) := by decide +kernel
theorem dX11_copyOf_77 : decode cX11_copyOf 77 = .ok (.goto (-31), 3) := by decide +kernel
theorem dX11_copyOf_80 : decode cX11_copyOf 80 = .ok (.return_, 1) := by decide +kernel

theorem d_Mo_given_88 : decode b_Mo_given 88 = .ok (.iload 6, 2) := by decide +kernel
theorem d_Mo_given_90 : decode b_Mo_given 90 = .ok (.lshl, 1) := by decide +kernel
theorem d_Mo_given_91 : decode b_Mo_given 91 = .ok (.lor, 1) := by decide +kernel
theorem d_Mo_given_92 : decode b_Mo_given 92 = .ok (.lstore 4, 2) := by decide +kernel
theorem d_Mo_given_94 : decode b_Mo_given 94 = .ok (.iinc 6 1, 3) := by decide +kernel
theorem d_Mo_given_97 : decode b_Mo_given 97 = .ok (.goto (-64), 3) := by decide +kernel
theorem d_Mo_given_100 : decode b_Mo_given 100 = .ok (.lload 4, 2) := by decide +kernel
theorem d_Mo_given_102 : decode b_Mo_given 102 = .ok (.lreturn, 1) := by decide +kernel
theorem d_Mo_name_0 : decode b_Mo_name 0 = .ok (.aload_n 0, 1) := by decide +kernel
theorem d_Mo_name_1 : decode b_Mo_name 1 = .ok (.iconst 0, 1) := by decide +kernel
theorem d_Mo_name_2 : decode b_Mo_name 2 = .ok (.putfield 94, 3) := by decide +kernel
theorem d_Mo_name_5 : decode b_Mo_name 5 = .ok (.iconst 0, 1) := by decide +kernel
theorem d_Mo_name_6 : decode b_Mo_name 6 = .ok (.istore_n 2, 1) := by decide +kernel
theorem d_Mo_name_7 : decode b_Mo_name 7 = .ok (.iload_n 2, 1) := by decide +kernel
theorem d_Mo_name_8 : decode b_Mo_name 8 = .ok (.bipush 16, 2) := by decide +kernel
theorem d_Mo_name_10 : decode b_Mo_name 10 = .ok (.if_icmp .ge 91, 3) := by decide +kernel
theorem d_Mo_name_13 : decode b_Mo_name 13 = .ok (.iconst 0, 1) := by decide +kernel
theorem d_Mo_name_14 : decode b_Mo_name 14 = .ok (.istore_n 3, 1) := by decide +kernel
theorem d_Mo_name_15 : decode b_Mo_name 15 = .ok (.iconst 0, 1) := by decide +kernel
theorem d_Mo_name_16 : decode b_Mo_name 16 = .ok (.istore 4, 2) := by decide +kernel
theorem d_Mo_name_18 : decode b_Mo_name 18 = .ok (.iload 4, 2) := by decide +kernel
theorem d_Mo_name_20 : decode b_Mo_name 20 = .ok (.bipush 16, 2) := by decide +kernel
theorem d_Mo_name_22 : decode b_Mo_name 22 = .ok (.if_icmp .ge 52, 3) := by decide +kernel
theorem d_Mo_name_25 : decode b_Mo_name 25 = .ok (.iload_n 3, 1) := by decide +kernel
theorem d_Mo_name_26 : decode b_Mo_name 26 = .ok (.aload_n 0, 1) := by decide +kernel
theorem d_Mo_name_27 : decode b_Mo_name 27 = .ok (.getfield 13, 3) := by decide +kernel
theorem d_Mo_name_30 : decode b_Mo_name 30 = .ok (.iload 4, 2) := by decide +kernel
theorem d_Mo_name_32 : decode b_Mo_name 32 = .ok (.baload, 1) := by decide +kernel
theorem d_Mo_name_33 : decode b_Mo_name 33 = .ok (.ifCond .eq 32, 3) := by decide +kernel
theorem d_Mo_name_36 : decode b_Mo_name 36 = .ok (.aload_n 0, 1) := by decide +kernel
theorem d_Mo_name_37 : decode b_Mo_name 37 = .ok (.getfield 13, 3) := by decide +kernel
theorem d_Mo_name_40 : decode b_Mo_name 40 = .ok (.iload_n 2, 1) := by decide +kernel
theorem d_Mo_name_41 : decode b_Mo_name 41 = .ok (.baload, 1) := by decide +kernel
theorem d_Mo_name_42 : decode b_Mo_name 42 = .ok (.ifCond .eq 23, 3) := by decide +kernel
theorem d_Mo_name_45 : decode b_Mo_name 45 = .ok (.aload_n 0, 1) := by decide +kernel
theorem d_Mo_name_46 : decode b_Mo_name 46 = .ok (.getfield 17, 3) := by decide +kernel
theorem d_Mo_name_49 : decode b_Mo_name 49 = .ok (.iload 4, 2) := by decide +kernel
theorem d_Mo_name_51 : decode b_Mo_name 51 = .ok (.iaload, 1) := by decide +kernel
theorem d_Mo_name_52 : decode b_Mo_name 52 = .ok (.aload_n 0, 1) := by decide +kernel
theorem d_Mo_name_53 : decode b_Mo_name 53 = .ok (.getfield 17, 3) := by decide +kernel
theorem d_Mo_name_56 : decode b_Mo_name 56 = .ok (.iload_n 2, 1) := by decide +kernel
theorem d_Mo_name_57 : decode b_Mo_name 57 = .ok (.iaload, 1) := by decide +kernel
theorem d_Mo_name_58 : decode b_Mo_name 58 = .ok (.if_icmp .ge 7, 3) := by decide +kernel
theorem d_Mo_name_61 : decode b_Mo_name 61 = .ok (.iconst 1, 1) := by decide +kernel
theorem d_Mo_name_62 : decode b_Mo_name 62 = .ok (.goto 4, 3) := by decide +kernel
theorem d_Mo_name_65 : decode b_Mo_name 65 = .ok (.iconst 0, 1) := by decide +kernel
theorem d_Mo_name_66 : decode b_Mo_name 66 = .ok (.iadd, 1) := by decide +kernel
theorem d_Mo_name_67 : decode b_Mo_name 67 = .ok (.istore_n 3, 1) := by decide +kernel
theorem d_Mo_name_68 : decode b_Mo_name 68 = .ok (.iinc 4 1, 3) := by decide +kernel
theorem d_Mo_name_71 : decode b_Mo_name 71 = .ok (.goto (-53), 3) := by decide +kernel
theorem d_Mo_name_74 : decode b_Mo_name 74 = .ok (.aload_n 0, 1) := by decide +kernel
theorem d_Mo_name_75 : decode b_Mo_name 75 = .ok (.getfield 13, 3) := by decide +kernel
theorem d_Mo_name_78 : decode b_Mo_name 78 = .ok (.iload_n 2, 1) := by decide +kernel
theorem d_Mo_name_79 : decode b_Mo_name 79 = .ok (.baload, 1) := by decide +kernel
theorem d_Mo_name_80 : decode b_Mo_name 80 = .ok (.ifCond .eq 15, 3) := by decide +kernel
theorem d_Mo_name_83 : decode b_Mo_name 83 = .ok (.iload_n 3, 1) := by decide +kernel
theorem d_Mo_name_84 : decode b_Mo_name 84 = .ok (.iload_n 1, 1) := by decide +kernel
theorem d_Mo_name_85 : decode b_Mo_name 85 = .ok (.if_icmp .ne 10, 3) := by decide +kernel
theorem d_Mo_name_88 : decode b_Mo_name 88 = .ok (.aload_n 0, 1) := by decide +kernel
theorem d_Mo_name_89 : decode b_Mo_name 89 = .ok (.getfield 17, 3) := by decide +kernel
theorem d_Mo_name_92 : decode b_Mo_name 92 = .ok (.iload_n 2, 1) := by decide +kernel
theorem d_Mo_name_93 : decode b_Mo_name 93 = .ok (.iaload, 1) := by decide +kernel
theorem d_Mo_name_94 : decode b_Mo_name 94 = .ok (.ireturn, 1) := by decide +kernel
theorem d_Mo_name_95 : decode b_Mo_name 95 = .ok (.iinc 2 1, 3) := by decide +kernel
theorem d_Mo_name_98 : decode b_Mo_name 98 = .ok (.goto (-91), 3) := by decide +kernel
theorem d_Mo_name_101 : decode b_Mo_name 101 = .ok (.iconst (-1), 1) := by decide +kernel
theorem d_Mo_name_102 : decode b_Mo_name 102 = .ok (.ireturn, 1) := by decide +kernel
theorem d_As_init_0 : decode b_As_init 0 = .ok (.aload_n 0, 1) := by decide +kernel
theorem d_As_init_1 : decode b_As_init 1 = .ok (.invokespecial 1, 3) := by decide +kernel
theorem d_As_init_4 : decode b_As_init 4 = .ok (.aload_n 0, 1) := by decide +kernel
theorem d_As_init_5 : decode b_As_init 5 = .ok (.new 7, 3) := by decide +kernel
theorem d_As_init_8 : decode b_As_init 8 = .ok (.dup, 1) := by decide +kernel
theorem d_As_init_9 : decode b_As_init 9 = .ok (.invokespecial 9, 3) := by decide +kernel
theorem d_As_init_12 : decode b_As_init 12 = .ok (.putfield 10, 3) := by decide +kernel
theorem d_As_init_15 : decode b_As_init 15 = .ok (.aload_n 0, 1) := by decide +kernel
theorem d_As_init_16 : decode b_As_init 16 = .ok (.new 16, 3) := by decide +kernel
theorem d_As_init_19 : decode b_As_init 19 = .ok (.dup, 1) := by decide +kernel
theorem d_As_init_20 : decode b_As_init 20 = .ok (.invokespecial 18, 3) := by decide +kernel
theorem d_As_init_23 : decode b_As_init 23 = .ok (.putfield 19, 3) := by decide +kernel
theorem d_As_init_26 : decode b_As_init 26 = .ok (.aload_n 0, 1) := by decide +kernel
theorem d_As_init_27 : decode b_As_init 27 = .ok (.iconst 0, 1) := by decide +kernel
theorem d_As_init_28 : decode b_As_init 28 = .ok (.putfield 23, 3) := by decide +kernel
theorem d_As_init_31 : decode b_As_init 31 = .ok (.aload_n 0, 1) := by decide +kernel
theorem d_As_init_32 : decode b_As_init 32 = .ok (.iconst 0, 1) := by decide +kernel
theorem d_As_init_33 : decode b_As_init 33 = .ok (.putfield 27, 3) := by decide +kernel
theorem d_As_init_36 : decode b_As_init 36 = .ok (.aload_n 0, 1) := by decide +kernel
theorem d_As_init_37 : decode b_As_init 37 = .ok (.iconst 0, 1) := by decide +kernel
theorem d_As_init_38 : decode b_As_init 38 = .ok (.putfield 30, 3) := by decide +kernel
theorem d_As_init_41 : decode b_As_init 41 = .ok (.aload_n 0, 1) := by decide +kernel
theorem d_As_init_42 : decode b_As_init 42 = .ok (.lconst 0, 1) := by decide +kernel
theorem d_As_init_43 : decode b_As_init 43 = .ok (.putfield 34, 3) := by decide +kernel
theorem d_As_init_46 : decode b_As_init 46 = .ok (.aload_n 0, 1) := by decide +kernel
theorem d_As_init_47 : decode b_As_init 47 = .ok (.lconst 0, 1) := by decide +kernel
theorem d_As_init_48 : decode b_As_init 48 = .ok (.putfield 38, 3) := by decide +kernel
theorem d_As_init_51 : decode b_As_init 51 = .ok (.aload_n 0, 1) := by decide +kernel
theorem d_As_init_52 : decode b_As_init 52 = .ok (.lconst 0, 1) := by decide +kernel
theorem d_As_init_53 : decode b_As_init 53 = .ok (.putfield 41, 3) := by decide +kernel
theorem d_As_init_56 : decode b_As_init 56 = .ok (.aload_n 0, 1) := by decide +kernel
theorem d_As_init_57 : decode b_As_init 57 = .ok (.iconst 0, 1) := by decide +kernel
theorem d_As_init_58 : decode b_As_init 58 = .ok (.putfield 44, 3) := by decide +kernel
theorem d_As_init_61 : decode b_As_init 61 = .ok (.aload_n 0, 1) := by decide +kernel
theorem d_As_init_62 : decode b_As_init 62 = .ok (.lconst 0, 1) := by decide +kernel
theorem d_As_init_63 : decode b_As_init 63 = .ok (.putfield 47, 3) := by decide +kernel
theorem d_As_init_66 : decode b_As_init 66 = .ok (.aload_n 0, 1) := by decide +kernel
theorem d_As_init_67 : decode b_As_init 67 = .ok (.lconst 0, 1) := by decide +kernel
theorem d_As_init_68 : decode b_As_init 68 = .ok (.putfield 50, 3) := by decide +kernel
theorem d_As_init_71 : decode b_As_init 71 = .ok (.aload_n 0, 1) := by decide +kernel
theorem d_As_init_72 : decode b_As_init 72 = .ok (.lconst 0, 1) := by decide +kernel
theorem d_As_init_73 : decode b_As_init 73 = .ok (.putfield 53, 3) := by decide +kernel
theorem d_As_init_76 : decode b_As_init 76 = .ok (.return_, 1) := by decide +kernel
theorem d_As_begin_0 : decode b_As_begin 0 = .ok (.aload_n 0, 1) := by decide +kernel
theorem d_As_begin_1 : decode b_As_begin 1 = .ok (.iload_n 1, 1) := by decide +kernel
theorem d_As_begin_2 : decode b_As_begin 2 = .ok (.putfield 23, 3) := by decide +kernel
theorem d_As_begin_5 : decode b_As_begin 5 = .ok (.aload_n 0, 1) := by decide +kernel
theorem d_As_begin_6 : decode b_As_begin 6 = .ok (.iload_n 2, 1) := by decide +kernel
theorem d_As_begin_7 : decode b_As_begin 7 = .ok (.putfield 27, 3) := by decide +kernel
theorem d_As_begin_10 : decode b_As_begin 10 = .ok (.aload_n 0, 1) := by decide +kernel
theorem d_As_begin_11 : decode b_As_begin 11 = .ok (.iload 4, 2) := by decide +kernel
theorem d_As_begin_13 : decode b_As_begin 13 = .ok (.putfield 30, 3) := by decide +kernel
theorem d_As_begin_16 : decode b_As_begin 16 = .ok (.aload_n 0, 1) := by decide +kernel
theorem d_As_begin_17 : decode b_As_begin 17 = .ok (.lconst 0, 1) := by decide +kernel
theorem d_As_begin_18 : decode b_As_begin 18 = .ok (.putfield 41, 3) := by decide +kernel
theorem d_As_begin_21 : decode b_As_begin 21 = .ok (.aload_n 0, 1) := by decide +kernel
theorem d_As_begin_22 : decode b_As_begin 22 = .ok (.ldc 56, 2) := by decide +kernel
theorem d_As_begin_24 : decode b_As_begin 24 = .ok (.putfield 44, 3) := by decide +kernel
theorem d_As_begin_27 : decode b_As_begin 27 = .ok (.aload_n 0, 1) := by decide +kernel
theorem d_As_begin_28 : decode b_As_begin 28 = .ok (.lconst 0, 1) := by decide +kernel
theorem d_As_begin_29 : decode b_As_begin 29 = .ok (.putfield 47, 3) := by decide +kernel
theorem d_As_begin_32 : decode b_As_begin 32 = .ok (.aload_n 0, 1) := by decide +kernel
theorem d_As_begin_33 : decode b_As_begin 33 = .ok (.lconst 0, 1) := by decide +kernel
theorem d_As_begin_34 : decode b_As_begin 34 = .ok (.putfield 50, 3) := by decide +kernel
theorem d_As_begin_37 : decode b_As_begin 37 = .ok (.aload_n 0, 1) := by decide +kernel
theorem d_As_begin_38 : decode b_As_begin 38 = .ok (.lconst 0, 1) := by decide +kernel
theorem d_As_begin_39 : decode b_As_begin 39 = .ok (.putfield 53, 3) := by decide +kernel
theorem d_As_begin_42 : decode b_As_begin 42 = .ok (.aload_n 0, 1) := by decide +kernel
theorem d_As_begin_43 : decode b_As_begin 43 = .ok (.getfield 19, 3) := by decide +kernel
theorem d_As_begin_46 : decode b_As_begin 46 = .ok (.iload_n 3, 1) := by decide +kernel
theorem d_As_begin_47 : decode b_As_begin 47 = .ok (.invokevirtual 57, 3) := by decide +kernel
theorem d_As_begin_50 : decode b_As_begin 50 = .ok (.return_, 1) := by decide +kernel
theorem d_As_takeKey_0 : decode b_As_takeKey 0 = .ok (.aload_n 0, 1) := by decide +kernel
theorem d_As_takeKey_1 : decode b_As_takeKey 1 = .ok (.getfield 10, 3) := by decide +kernel
theorem d_As_takeKey_4 : decode b_As_takeKey 4 = .ok (.lload_n 1, 1) := by decide +kernel
theorem d_As_takeKey_5 : decode b_As_takeKey 5 = .ok (.lload_n 3, 1) := by decide +kernel
theorem d_As_takeKey_6 : decode b_As_takeKey 6 = .ok (.invokevirtual 61, 3) := by decide +kernel
theorem d_As_takeKey_9 : decode b_As_takeKey 9 = .ok (.aload_n 0, 1) := by decide +kernel
theorem d_As_takeKey_10 : decode b_As_takeKey 10 = .ok (.getfield 10, 3) := by decide +kernel
theorem d_As_takeKey_13 : decode b_As_takeKey 13 = .ok (.iconst 0, 1) := by decide +kernel
theorem d_As_takeKey_14 : decode b_As_takeKey 14 = .ok (.iconst 0, 1) := by decide +kernel
theorem d_As_takeKey_15 : decode b_As_takeKey 15 = .ok (.iconst 0, 1) := by decide +kernel
theorem d_As_takeKey_16 : decode b_As_takeKey 16 = .ok (.iconst 0, 1) := by decide +kernel
theorem d_As_takeKey_17 : decode b_As_takeKey 17 = .ok (.invokevirtual 65, 3) := by decide +kernel
theorem d_As_takeKey_20 : decode b_As_takeKey 20 = .ok (.aload_n 0, 1) := by decide +kernel
theorem d_As_takeKey_21 : decode b_As_takeKey 21 = .ok (.aload_n 0, 1) := by decide +kernel
theorem d_As_takeKey_22 : decode b_As_takeKey 22 = .ok (.getfield 10, 3) := by decide +kernel
theorem d_As_takeKey_25 : decode b_As_takeKey 25 = .ok (.getfield 69, 3) := by decide +kernel
theorem d_As_takeKey_28 : decode b_As_takeKey 28 = .ok (.putfield 34, 3) := by decide +kernel
theorem d_As_takeKey_31 : decode b_As_takeKey 31 = .ok (.aload_n 0, 1) := by decide +kernel
theorem d_As_takeKey_32 : decode b_As_takeKey 32 = .ok (.aload_n 0, 1) := by decide +kernel
theorem d_As_takeKey_33 : decode b_As_takeKey 33 = .ok (.getfield 10, 3) := by decide +kernel
theorem d_As_takeKey_36 : decode b_As_takeKey 36 = .ok (.getfield 72, 3) := by decide +kernel
theorem d_As_takeKey_39 : decode b_As_takeKey 39 = .ok (.putfield 38, 3) := by decide +kernel
theorem d_As_takeKey_42 : decode b_As_takeKey 42 = .ok (.return_, 1) := by decide +kernel
theorem d_As_greatest_0 : decode b_As_greatest 0 = .ok (.aload_n 0, 1) := by decide +kernel
theorem d_As_greatest_1 : decode b_As_greatest 1 = .ok (.getfield 30, 3) := by decide +kernel
theorem d_As_greatest_4 : decode b_As_greatest 4 = .ok (.ifCond .eq 9, 3) := by decide +kernel
theorem d_As_greatest_7 : decode b_As_greatest 7 = .ok (.ldc2_w 77, 3) := by decide +kernel
theorem d_As_greatest_10 : decode b_As_greatest 10 = .ok (.goto 6, 3) := by decide +kernel
theorem d_As_greatest_13 : decode b_As_greatest 13 = .ok (.ldc2_w 79, 3) := by decide +kernel
theorem d_As_greatest_16 : decode b_As_greatest 16 = .ok (.lreturn, 1) := by decide +kernel
theorem d_As_fullNumber_0 : decode b_As_fullNumber 0 = .ok (.aload_n 0, 1) := by decide +kernel
theorem d_As_fullNumber_1 : decode b_As_fullNumber 1 = .ok (.getfield 30, 3) := by decide +kernel
theorem d_As_fullNumber_4 : decode b_As_fullNumber 4 = .ok (.ifCond .ne 5, 3) := by decide +kernel
theorem d_As_fullNumber_7 : decode b_As_fullNumber 7 = .ok (.lload_n 1, 1) := by decide +kernel
theorem d_As_fullNumber_8 : decode b_As_fullNumber 8 = .ok (.lreturn, 1) := by decide +kernel
theorem d_As_fullNumber_9 : decode b_As_fullNumber 9 = .ok (.aload_n 0, 1) := by decide +kernel
theorem d_As_fullNumber_10 : decode b_As_fullNumber 10 = .ok (.getfield 19, 3) := by decide +kernel
theorem d_As_fullNumber_13 : decode b_As_fullNumber 13 = .ok (.getfield 81, 3) := by decide +kernel
theorem d_As_fullNumber_16 : decode b_As_fullNumber 16 = .ok (.aload_n 0, 1) := by decide +kernel
theorem d_As_fullNumber_17 : decode b_As_fullNumber 17 = .ok (.getfield 19, 3) := by decide +kernel
theorem d_As_fullNumber_20 : decode b_As_fullNumber 20 = .ok (.getfield 84, 3) := by decide +kernel
theorem d_As_fullNumber_23 : decode b_As_fullNumber 23 = .ok (.i2l, 1) := by decide +kernel
theorem d_As_fullNumber_24 : decode b_As_fullNumber 24 = .ok (.lsub, 1) := by decide +kernel
theorem d_As_fullNumber_25 : decode b_As_fullNumber 25 = .ok (.lconst 1, 1) := by decide +kernel
theorem d_As_fullNumber_26 : decode b_As_fullNumber 26 = .ok (.ladd, 1) := by decide +kernel
theorem d_As_fullNumber_27 : decode b_As_fullNumber 27 = .ok (.lstore_n 3, 1) := by decide +kernel
theorem d_As_fullNumber_28 : decode b_As_fullNumber 28 = .ok (.lload_n 3, 1) := by decide +kernel
theorem d_As_fullNumber_29 : decode b_As_fullNumber 29 = .ok (.lload_n 1, 1) := by decide +kernel
theorem d_As_fullNumber_30 : decode b_As_fullNumber 30 = .ok (.lload_n 3, 1) := by decide +kernel
theorem d_As_fullNumber_31 : decode b_As_fullNumber 31 = .ok (.lsub, 1) := by decide +kernel
theorem d_As_fullNumber_32 : decode b_As_fullNumber 32 = .ok (.ldc2_w 79, 3) := by decide +kernel
theorem d_As_fullNumber_35 : decode b_As_fullNumber 35 = .ok (.land, 1) := by decide +kernel
theorem d_As_fullNumber_36 : decode b_As_fullNumber 36 = .ok (.ladd, 1) := by decide +kernel
theorem d_As_fullNumber_37 : decode b_As_fullNumber 37 = .ok (.lreturn, 1) := by decide +kernel
theorem d_As_mayGiveOut_0 : decode b_As_mayGiveOut 0 = .ok (.lload_n 1, 1) := by decide +kernel
theorem d_As_mayGiveOut_1 : decode b_As_mayGiveOut 1 = .ok (.lconst 1, 1) := by decide +kernel
theorem d_As_mayGiveOut_2 : decode b_As_mayGiveOut 2 = .ok (.lcmp, 1) := by decide +kernel
theorem d_As_mayGiveOut_3 : decode b_As_mayGiveOut 3 = .ok (.ifCond .lt 38, 3) := by decide +kernel
theorem d_As_mayGiveOut_6 : decode b_As_mayGiveOut 6 = .ok (.lload_n 1, 1) := by decide +kernel
theorem d_As_mayGiveOut_7 : decode b_As_mayGiveOut 7 = .ok (.aload_n 0, 1) := by decide +kernel
theorem d_As_mayGiveOut_8 : decode b_As_mayGiveOut 8 = .ok (.invokevirtual 87, 3) := by decide +kernel
theorem d_As_mayGiveOut_11 : decode b_As_mayGiveOut 11 = .ok (.lcmp, 1) := by decide +kernel
theorem d_As_mayGiveOut_12 : decode b_As_mayGiveOut 12 = .ok (.ifCond .gt 29, 3) := by decide +kernel
theorem d_As_mayGiveOut_15 : decode b_As_mayGiveOut 15 = .ok (.aload_n 0, 1) := by decide +kernel
theorem d_As_mayGiveOut_16 : decode b_As_mayGiveOut 16 = .ok (.getfield 19, 3) := by decide +kernel
theorem d_As_mayGiveOut_19 : decode b_As_mayGiveOut 19 = .ok (.lload_n 1, 1) := by decide +kernel
theorem d_As_mayGiveOut_20 : decode b_As_mayGiveOut 20 = .ok (.invokevirtual 91, 3) := by decide +kernel
theorem d_As_mayGiveOut_23 : decode b_As_mayGiveOut 23 = .ok (.ifCond .eq 18, 3) := by decide +kernel
theorem d_As_mayGiveOut_26 : decode b_As_mayGiveOut 26 = .ok (.aload_n 0, 1) := by decide +kernel
theorem d_As_mayGiveOut_27 : decode b_As_mayGiveOut 27 = .ok (.getfield 19, 3) := by decide +kernel
theorem d_As_mayGiveOut_30 : decode b_As_mayGiveOut 30 = .ok (.lload_n 1, 1) := by decide +kernel
theorem d_As_mayGiveOut_31 : decode b_As_mayGiveOut 31 = .ok (.invokevirtual 95, 3) := by decide +kernel
theorem d_As_mayGiveOut_34 : decode b_As_mayGiveOut 34 = .ok (.ifCond .ne 7, 3) := by decide +kernel
theorem d_As_mayGiveOut_37 : decode b_As_mayGiveOut 37 = .ok (.iconst 1, 1) := by decide +kernel
theorem d_As_mayGiveOut_38 : decode b_As_mayGiveOut 38 = .ok (.goto 4, 3) := by decide +kernel
theorem d_As_mayGiveOut_41 : decode b_As_mayGiveOut 41 = .ok (.iconst 0, 1) := by decide +kernel
theorem d_As_mayGiveOut_42 : decode b_As_mayGiveOut 42 = .ok (.ireturn, 1) := by decide +kernel
theorem d_As_giveOut_0 : decode b_As_giveOut 0 = .ok (.aload_n 0, 1) := by decide +kernel
theorem d_As_giveOut_1 : decode b_As_giveOut 1 = .ok (.getfield 19, 3) := by decide +kernel
theorem d_As_giveOut_4 : decode b_As_giveOut 4 = .ok (.lload_n 1, 1) := by decide +kernel
theorem d_As_giveOut_5 : decode b_As_giveOut 5 = .ok (.invokevirtual 98, 3) := by decide +kernel
theorem d_As_giveOut_8 : decode b_As_giveOut 8 = .ok (.aload_n 0, 1) := by decide +kernel
theorem d_As_giveOut_9 : decode b_As_giveOut 9 = .ok (.dup, 1) := by decide +kernel
theorem d_As_giveOut_10 : decode b_As_giveOut 10 = .ok (.getfield 47, 3) := by decide +kernel
theorem d_As_giveOut_13 : decode b_As_giveOut 13 = .ok (.lconst 1, 1) := by decide +kernel
theorem d_As_giveOut_14 : decode b_As_giveOut 14 = .ok (.ladd, 1) := by decide +kernel
theorem d_As_giveOut_15 : decode b_As_giveOut 15 = .ok (.putfield 47, 3) := by decide +kernel
theorem d_As_giveOut_18 : decode b_As_giveOut 18 = .ok (.return_, 1) := by decide +kernel
theorem d_As_mask_0 : decode b_As_mask 0 = .ok (.iconst 2, 1) := by decide +kernel
theorem d_As_mask_1 : decode b_As_mask 1 = .ok (.istore 5, 2) := by decide +kernel
theorem d_As_mask_3 : decode b_As_mask 3 = .ok (.iload_n 2, 1) := by decide +kernel
theorem d_As_mask_4 : decode b_As_mask 4 = .ok (.istore 6, 2) := by decide +kernel
theorem d_As_mask_6 : decode b_As_mask 6 = .ok (.iload 6, 2) := by decide +kernel
theorem d_As_mask_8 : decode b_As_mask 8 = .ok (.aload_n 1, 1) := by decide +kernel
theorem d_As_mask_9 : decode b_As_mask 9 = .ok (.getfield 102, 3) := by decide +kernel
theorem d_As_mask_12 : decode b_As_mask 12 = .ok (.if_icmp .ge 111, 3) := by decide +kernel
theorem d_As_mask_15 : decode b_As_mask 15 = .ok (.aload_n 0, 1) := by decide +kernel
theorem d_As_mask_16 : decode b_As_mask 16 = .ok (.lload_n 3, 1) := by decide +kernel
theorem d_As_mask_17 : decode b_As_mask 17 = .ok (.iload 5, 2) := by decide +kernel
theorem d_As_mask_19 : decode b_As_mask 19 = .ok (.invokevirtual 107, 3) := by decide +kernel
theorem d_As_mask_22 : decode b_As_mask 22 = .ok (.iload 6, 2) := by decide +kernel
theorem d_As_mask_24 : decode b_As_mask 24 = .ok (.bipush 16, 2) := by decide +kernel
theorem d_As_mask_26 : decode b_As_mask 26 = .ok (.iadd, 1) := by decide +kernel
theorem d_As_mask_27 : decode b_As_mask 27 = .ok (.aload_n 1, 1) := by decide +kernel
theorem d_As_mask_28 : decode b_As_mask 28 = .ok (.getfield 102, 3) := by decide +kernel
theorem d_As_mask_31 : decode b_As_mask 31 = .ok (.invokestatic 111, 3) := by decide +kernel
theorem d_As_mask_34 : decode b_As_mask 34 = .ok (.istore 7, 2) := by decide +kernel
theorem d_As_mask_36 : decode b_As_mask 36 = .ok (.iload 6, 2) := by decide +kernel
theorem d_As_mask_38 : decode b_As_mask 38 = .ok (.istore 8, 2) := by decide +kernel
theorem d_As_mask_40 : decode b_As_mask 40 = .ok (.iload 8, 2) := by decide +kernel
theorem d_As_mask_42 : decode b_As_mask 42 = .ok (.iload 7, 2) := by decide +kernel
theorem d_As_mask_44 : decode b_As_mask 44 = .ok (.if_icmp .ge 70, 3) := by decide +kernel
theorem d_As_mask_47 : decode b_As_mask 47 = .ok (.iload 8, 2) := by decide +kernel
theorem d_As_mask_49 : decode b_As_mask 49 = .ok (.iload 6, 2) := by decide +kernel
theorem d_As_mask_51 : decode b_As_mask 51 = .ok (.isub, 1) := by decide +kernel
theorem d_As_mask_52 : decode b_As_mask 52 = .ok (.bipush 8, 2) := by decide +kernel
theorem d_As_mask_54 : decode b_As_mask 54 = .ok (.if_icmp .ge 13, 3) := by decide +kernel
theorem d_As_mask_57 : decode b_As_mask 57 = .ok (.aload_n 0, 1) := by decide +kernel
theorem d_As_mask_58 : decode b_As_mask 58 = .ok (.getfield 10, 3) := by decide +kernel
theorem d_As_mask_61 : decode b_As_mask 61 = .ok (.getfield 69, 3) := by decide +kernel
theorem d_As_mask_64 : decode b_As_mask 64 = .ok (.goto 10, 3) := by decide +kernel
theorem d_As_mask_67 : decode b_As_mask 67 = .ok (.aload_n 0, 1) := by decide +kernel
theorem d_As_mask_68 : decode b_As_mask 68 = .ok (.getfield 10, 3) := by decide +kernel
theorem d_As_mask_71 : decode b_As_mask 71 = .ok (.getfield 72, 3) := by decide +kernel
theorem d_As_mask_74 : decode b_As_mask 74 = .ok (.lstore 9, 2) := by decide +kernel
theorem d_As_mask_76 : decode b_As_mask 76 = .ok (.aload_n 1, 1) := by decide +kernel
theorem d_As_mask_77 : decode b_As_mask 77 = .ok (.iload 8, 2) := by decide +kernel
theorem d_As_mask_79 : decode b_As_mask 79 = .ok (.aload_n 1, 1) := by decide +kernel
theorem d_As_mask_80 : decode b_As_mask 80 = .ok (.iload 8, 2) := by decide +kernel
theorem d_As_mask_82 : decode b_As_mask 82 = .ok (.i2l, 1) := by decide +kernel
theorem d_As_mask_83 : decode b_As_mask 83 = .ok (.invokevirtual 117, 3) := by decide +kernel
theorem d_As_mask_86 : decode b_As_mask 86 = .ok (.lload 9, 2) := by decide +kernel
theorem d_As_mask_88 : decode b_As_mask 88 = .ok (.bipush 56, 2) := by decide +kernel
theorem d_As_mask_90 : decode b_As_mask 90 = .ok (.bipush 8, 2) := by decide +kernel
theorem d_As_mask_92 : decode b_As_mask 92 = .ok (.iload 8, 2) := by decide +kernel
theorem d_As_mask_94 : decode b_As_mask 94 = .ok (.iload 6, 2) := by decide +kernel
theorem d_As_mask_96 : decode b_As_mask 96 = .ok (.isub, 1) := by decide +kernel
theorem d_As_mask_97 : decode b_As_mask 97 = .ok (.bipush 7, 2) := by decide +kernel
theorem d_As_mask_99 : decode b_As_mask 99 = .ok (.iand, 1) := by decide +kernel
theorem d_As_mask_100 : decode b_As_mask 100 = .ok (.imul, 1) := by decide +kernel
theorem d_As_mask_101 : decode b_As_mask 101 = .ok (.isub, 1) := by decide +kernel
theorem d_As_mask_102 : decode b_As_mask 102 = .ok (.lushr, 1) := by decide +kernel
theorem d_As_mask_103 : decode b_As_mask 103 = .ok (.l2i, 1) := by decide +kernel
theorem d_As_mask_104 : decode b_As_mask 104 = .ok (.ixor, 1) := by decide +kernel
theorem d_As_mask_105 : decode b_As_mask 105 = .ok (.invokevirtual 121, 3) := by decide +kernel
theorem d_As_mask_108 : decode b_As_mask 108 = .ok (.iinc 8 1, 3) := by decide +kernel
theorem d_As_mask_111 : decode b_As_mask 111 = .ok (.goto (-71), 3) := by decide +kernel
theorem d_As_mask_114 : decode b_As_mask 114 = .ok (.iinc 5 1, 3) := by decide +kernel
theorem d_As_mask_117 : decode b_As_mask 117 = .ok (.iinc 6 16, 3) := by decide +kernel
theorem d_As_mask_120 : decode b_As_mask 120 = .ok (.goto (-114), 3) := by decide +kernel
theorem d_As_mask_123 : decode b_As_mask 123 = .ok (.return_, 1) := by decide +kernel
theorem d_As_maskCheck_0 : decode b_As_maskCheck 0 = .ok (.aload_n 0, 1) := by decide +kernel
theorem d_As_maskCheck_1 : decode b_As_maskCheck 1 = .ok (.lload_n 2, 1) := by decide +kernel
theorem d_As_maskCheck_2 : decode b_As_maskCheck 2 = .ok (.iconst 1, 1) := by decide +kernel
theorem d_As_maskCheck_3 : decode b_As_maskCheck 3 = .ok (.invokevirtual 107, 3) := by decide +kernel
theorem d_As_maskCheck_6 : decode b_As_maskCheck 6 = .ok (.aload_n 1, 1) := by decide +kernel
theorem d_As_maskCheck_7 : decode b_As_maskCheck 7 = .ok (.dup, 1) := by decide +kernel
theorem d_As_maskCheck_8 : decode b_As_maskCheck 8 = .ok (.getfield 125, 3) := by decide +kernel
theorem d_As_maskCheck_11 : decode b_As_maskCheck 11 = .ok (.aload_n 0, 1) := by decide +kernel
theorem d_As_maskCheck_12 : decode b_As_maskCheck 12 = .ok (.getfield 10, 3) := by decide +kernel
theorem d_As_maskCheck_15 : decode b_As_maskCheck 15 = .ok (.getfield 69, 3) := by decide +kernel
theorem d_As_maskCheck_18 : decode b_As_maskCheck 18 = .ok (.lxor, 1) := by decide +kernel
theorem d_As_maskCheck_19 : decode b_As_maskCheck 19 = .ok (.putfield 125, 3) := by decide +kernel
theorem d_As_maskCheck_22 : decode b_As_maskCheck 22 = .ok (.aload_n 1, 1) := by decide +kernel
theorem d_As_maskCheck_23 : decode b_As_maskCheck 23 = .ok (.dup, 1) := by decide +kernel
theorem d_As_maskCheck_24 : decode b_As_maskCheck 24 = .ok (.getfield 128, 3) := by decide +kernel
theorem d_As_maskCheck_27 : decode b_As_maskCheck 27 = .ok (.aload_n 0, 1) := by decide +kernel
theorem d_As_maskCheck_28 : decode b_As_maskCheck 28 = .ok (.getfield 10, 3) := by decide +kernel
theorem d_As_maskCheck_31 : decode b_As_maskCheck 31 = .ok (.getfield 72, 3) := by decide +kernel
theorem d_As_maskCheck_34 : decode b_As_maskCheck 34 = .ok (.lxor, 1) := by decide +kernel
theorem d_As_maskCheck_35 : decode b_As_maskCheck 35 = .ok (.putfield 128, 3) := by decide +kernel
theorem d_As_maskCheck_38 : decode b_As_maskCheck 38 = .ok (.return_, 1) := by decide +kernel
theorem d_As_encryptJ_0 : decode b_As_encryptJ 0 = .ok (.aload_n 0, 1) := by decide +kernel
theorem d_As_encryptJ_1 : decode b_As_encryptJ 1 = .ok (.getfield 10, 3) := by decide +kernel
theorem d_As_encryptJ_4 : decode b_As_encryptJ 4 = .ok (.aload_n 0, 1) := by decide +kernel
theorem d_As_encryptJ_5 : decode b_As_encryptJ 5 = .ok (.getfield 27, 3) := by decide +kernel
theorem d_As_encryptJ_8 : decode b_As_encryptJ 8 = .ok (.lload_n 1, 1) := by decide +kernel
theorem d_As_encryptJ_9 : decode b_As_encryptJ 9 = .ok (.bipush 32, 2) := by decide +kernel
theorem d_As_encryptJ_11 : decode b_As_encryptJ 11 = .ok (.lushr, 1) := by decide +kernel
theorem d_As_encryptJ_12 : decode b_As_encryptJ 12 = .ok (.l2i, 1) := by decide +kernel
theorem d_As_encryptJ_13 : decode b_As_encryptJ 13 = .ok (.lload_n 1, 1) := by decide +kernel
theorem d_As_encryptJ_14 : decode b_As_encryptJ 14 = .ok (.l2i, 1) := by decide +kernel
theorem d_As_encryptJ_15 : decode b_As_encryptJ 15 = .ok (.iload_n 3, 1) := by decide +kernel
theorem d_As_encryptJ_16 : decode b_As_encryptJ 16 = .ok (.invokevirtual 65, 3) := by decide +kernel
theorem d_As_encryptJ_19 : decode b_As_encryptJ 19 = .ok (.return_, 1) := by decide +kernel
theorem d_Ch_init_0 : decode b_Ch_init 0 = .ok (.aload_n 0, 1) := by decide +kernel
theorem d_Ch_init_1 : decode b_Ch_init 1 = .ok (.invokespecial 3, 3) := by decide +kernel
theorem d_Ch_init_4 : decode b_Ch_init 4 = .ok (.aload_n 0, 1) := by decide +kernel
theorem d_Ch_init_5 : decode b_Ch_init 5 = .ok (.lconst 0, 1) := by decide +kernel
theorem d_Ch_init_6 : decode b_Ch_init 6 = .ok (.putfield 9, 3) := by decide +kernel
theorem d_Ch_init_9 : decode b_Ch_init 9 = .ok (.aload_n 0, 1) := by decide +kernel
theorem d_Ch_init_10 : decode b_Ch_init 10 = .ok (.lconst 0, 1) := by decide +kernel
theorem d_Ch_init_11 : decode b_Ch_init 11 = .ok (.putfield 15, 3) := by decide +kernel
theorem d_Ch_init_14 : decode b_Ch_init 14 = .ok (.return_, 1) := by decide +kernel
theorem d_Ch_ofBody_0 : decode b_Ch_ofBody 0 = .ok (.aload_n 0, 1) := by decide +kernel
theorem d_Ch_ofBody_1 : decode b_Ch_ofBody 1 = .ok (.lconst 0, 1) := by decide +kernel
theorem d_Ch_ofBody_2 : decode b_Ch_ofBody 2 = .ok (.putfield 9, 3) := by decide +kernel
theorem d_Ch_ofBody_5 : decode b_Ch_ofBody 5 = .ok (.aload_n 0, 1) := by decide +kernel
theorem d_Ch_ofBody_6 : decode b_Ch_ofBody 6 = .ok (.lconst 0, 1) := by decide +kernel
theorem d_Ch_ofBody_7 : decode b_Ch_ofBody 7 = .ok (.putfield 15, 3) := by decide +kernel
theorem d_Ch_ofBody_10 : decode b_Ch_ofBody 10 = .ok (.aload_n 1, 1) := by decide +kernel
theorem d_Ch_ofBody_11 : decode b_Ch_ofBody 11 = .ok (.getfield 18, 3) := by decide +kernel
theorem d_Ch_ofBody_14 : decode b_Ch_ofBody 14 = .ok (.i2l, 1) := by decide +kernel
theorem d_Ch_ofBody_15 : decode b_Ch_ofBody 15 = .ok (.bipush 32, 2) := by decide +kernel
theorem d_Ch_ofBody_17 : decode b_Ch_ofBody 17 = .ok (.lshl, 1) := by decide +kernel
theorem d_Ch_ofBody_18 : decode b_Ch_ofBody 18 = .ok (.lstore 6, 2) := by decide +kernel
theorem d_Ch_ofBody_20 : decode b_Ch_ofBody 20 = .ok (.aload_n 1, 1) := by decide +kernel
theorem d_Ch_ofBody_21 : decode b_Ch_ofBody 21 = .ok (.getfield 24, 3) := by decide +kernel
theorem d_Ch_ofBody_24 : decode b_Ch_ofBody 24 = .ok (.ifCond .eq 22, 3) := by decide +kernel
theorem d_Ch_ofBody_27 : decode b_Ch_ofBody 27 = .ok (.aload_n 0, 1) := by decide +kernel
theorem d_Ch_ofBody_28 : decode b_Ch_ofBody 28 = .ok (.aload_n 1, 1) := by decide +kernel
theorem d_Ch_ofBody_29 : decode b_Ch_ofBody 29 = .ok (.lload 6, 2) := by decide +kernel
theorem d_Ch_ofBody_31 : decode b_Ch_ofBody 31 = .ok (.lload_n 2, 1) := by decide +kernel
theorem d_Ch_ofBody_32 : decode b_Ch_ofBody 32 = .ok (.bipush 32, 2) := by decide +kernel
theorem d_Ch_ofBody_34 : decode b_Ch_ofBody 34 = .ok (.lushr, 1) := by decide +kernel
theorem d_Ch_ofBody_35 : decode b_Ch_ofBody 35 = .ok (.lor, 1) := by decide +kernel
theorem d_Ch_ofBody_36 : decode b_Ch_ofBody 36 = .ok (.lload_n 2, 1) := by decide +kernel
theorem d_Ch_ofBody_37 : decode b_Ch_ofBody 37 = .ok (.bipush 32, 2) := by decide +kernel
theorem d_Ch_ofBody_39 : decode b_Ch_ofBody 39 = .ok (.lshl, 1) := by decide +kernel
theorem d_Ch_ofBody_40 : decode b_Ch_ofBody 40 = .ok (.invokevirtual 28, 3) := by decide +kernel
theorem d_Ch_ofBody_43 : decode b_Ch_ofBody 43 = .ok (.goto 17, 3) := by decide +kernel
theorem d_Ch_ofBody_46 : decode b_Ch_ofBody 46 = .ok (.aload_n 0, 1) := by decide +kernel
theorem d_Ch_ofBody_47 : decode b_Ch_ofBody 47 = .ok (.aload_n 1, 1) := by decide +kernel
theorem d_Ch_ofBody_48 : decode b_Ch_ofBody 48 = .ok (.lload 6, 2) := by decide +kernel
theorem d_Ch_ofBody_50 : decode b_Ch_ofBody 50 = .ok (.lload_n 2, 1) := by decide +kernel
theorem d_Ch_ofBody_51 : decode b_Ch_ofBody 51 = .ok (.ldc2_w 32, 3) := by decide +kernel
theorem d_Ch_ofBody_54 : decode b_Ch_ofBody 54 = .ok (.land, 1) := by decide +kernel
theorem d_Ch_ofBody_55 : decode b_Ch_ofBody 55 = .ok (.lor, 1) := by decide +kernel
theorem d_Ch_ofBody_56 : decode b_Ch_ofBody 56 = .ok (.lconst 0, 1) := by decide +kernel
theorem d_Ch_ofBody_57 : decode b_Ch_ofBody 57 = .ok (.invokevirtual 28, 3) := by decide +kernel
theorem d_Ch_ofBody_60 : decode b_Ch_ofBody 60 = .ok (.bipush 16, 2) := by decide +kernel
theorem d_Ch_ofBody_62 : decode b_Ch_ofBody 62 = .ok (.iload 5, 2) := by decide +kernel
theorem d_Ch_ofBody_64 : decode b_Ch_ofBody 64 = .ok (.iadd, 1) := by decide +kernel
theorem d_Ch_ofBody_65 : decode b_Ch_ofBody 65 = .ok (.istore 8, 2) := by decide +kernel
theorem d_Ch_ofBody_67 : decode b_Ch_ofBody 67 = .ok (.bipush 16, 2) := by decide +kernel
theorem d_Ch_ofBody_69 : decode b_Ch_ofBody 69 = .ok (.istore 9, 2) := by decide +kernel
theorem d_Ch_ofBody_71 : decode b_Ch_ofBody 71 = .ok (.iload 9, 2) := by decide +kernel
theorem d_Ch_ofBody_73 : decode b_Ch_ofBody 73 = .ok (.iload 8, 2) := by decide +kernel
theorem d_Ch_ofBody_75 : decode b_Ch_ofBody 75 = .ok (.if_icmp .ge 39, 3) := by decide +kernel
theorem d_Ch_ofBody_78 : decode b_Ch_ofBody 78 = .ok (.aload_n 0, 1) := by decide +kernel
theorem d_Ch_ofBody_79 : decode b_Ch_ofBody 79 = .ok (.aload_n 1, 1) := by decide +kernel
theorem d_Ch_ofBody_80 : decode b_Ch_ofBody 80 = .ok (.aload 4, 2) := by decide +kernel
theorem d_Ch_ofBody_82 : decode b_Ch_ofBody 82 = .ok (.iload 9, 2) := by decide +kernel
theorem d_Ch_ofBody_84 : decode b_Ch_ofBody 84 = .ok (.bipush 8, 2) := by decide +kernel
theorem d_Ch_ofBody_86 : decode b_Ch_ofBody 86 = .ok (.iload 8, 2) := by decide +kernel
theorem d_Ch_ofBody_88 : decode b_Ch_ofBody 88 = .ok (.invokevirtual 34, 3) := by decide +kernel
theorem d_Ch_ofBody_91 : decode b_Ch_ofBody 91 = .ok (.aload 4, 2) := by decide +kernel
theorem d_Ch_ofBody_93 : decode b_Ch_ofBody 93 = .ok (.iload 9, 2) := by decide +kernel
theorem d_Ch_ofBody_95 : decode b_Ch_ofBody 95 = .ok (.bipush 8, 2) := by decide +kernel
theorem d_Ch_ofBody_97 : decode b_Ch_ofBody 97 = .ok (.iadd, 1) := by decide +kernel
theorem d_Ch_ofBody_98 : decode b_Ch_ofBody 98 = .ok (.bipush 8, 2) := by decide +kernel
theorem d_Ch_ofBody_100 : decode b_Ch_ofBody 100 = .ok (.iload 8, 2) := by decide +kernel
theorem d_Ch_ofBody_102 : decode b_Ch_ofBody 102 = .ok (.invokevirtual 34, 3) := by decide +kernel
theorem d_Ch_ofBody_105 : decode b_Ch_ofBody 105 = .ok (.invokevirtual 28, 3) := by decide +kernel
theorem d_Ch_ofBody_108 : decode b_Ch_ofBody 108 = .ok (.iinc 9 16, 3) := by decide +kernel
theorem d_Ch_ofBody_111 : decode b_Ch_ofBody 111 = .ok (.goto (-40), 3) := by decide +kernel
theorem d_Ch_ofBody_114 : decode b_Ch_ofBody 114 = .ok (.aload_n 0, 1) := by decide +kernel
theorem d_Ch_ofBody_115 : decode b_Ch_ofBody 115 = .ok (.aload_n 1, 1) := by decide +kernel
theorem d_Ch_ofBody_116 : decode b_Ch_ofBody 116 = .ok (.bipush 8, 2) := by decide +kernel
theorem d_Ch_ofBody_118 : decode b_Ch_ofBody 118 = .ok (.aload_n 1, 1) := by decide +kernel
theorem d_Ch_ofBody_119 : decode b_Ch_ofBody 119 = .ok (.getfield 24, 3) := by decide +kernel
theorem d_Ch_ofBody_122 : decode b_Ch_ofBody 122 = .ok (.ifCond .eq 8, 3) := by decide +kernel
theorem d_Ch_ofBody_125 : decode b_Ch_ofBody 125 = .ok (.bipush 12, 2) := by decide +kernel
theorem d_Ch_ofBody_127 : decode b_Ch_ofBody 127 = .ok (.goto 5, 3) := by decide +kernel
theorem d_Ch_ofBody_130 : decode b_Ch_ofBody 130 = .ok (.bipush 8, 2) := by decide +kernel
theorem d_Ch_ofBody_132 : decode b_Ch_ofBody 132 = .ok (.imul, 1) := by decide +kernel
theorem d_Ch_ofBody_133 : decode b_Ch_ofBody 133 = .ok (.i2l, 1) := by decide +kernel
theorem d_Ch_ofBody_134 : decode b_Ch_ofBody 134 = .ok (.ldc2_w 40, 3) := by decide +kernel
theorem d_Ch_ofBody_137 : decode b_Ch_ofBody 137 = .ok (.iload 5, 2) := by decide +kernel
theorem d_Ch_ofBody_139 : decode b_Ch_ofBody 139 = .ok (.i2l, 1) := by decide +kernel
theorem d_Ch_ofBody_140 : decode b_Ch_ofBody 140 = .ok (.lmul, 1) := by decide +kernel
theorem d_Ch_ofBody_141 : decode b_Ch_ofBody 141 = .ok (.invokevirtual 28, 3) := by decide +kernel
theorem d_Ch_ofBody_144 : decode b_Ch_ofBody 144 = .ok (.return_, 1) := by decide +kernel
theorem d_Ch_take_0 : decode b_Ch_take 0 = .ok (.aload_n 0, 1) := by decide +kernel
theorem d_Ch_take_1 : decode b_Ch_take 1 = .ok (.getfield 9, 3) := by decide +kernel
theorem d_Ch_take_4 : decode b_Ch_take 4 = .ok (.lload_n 2, 1) := by decide +kernel
theorem d_Ch_take_5 : decode b_Ch_take 5 = .ok (.lxor, 1) := by decide +kernel
theorem d_Ch_take_6 : decode b_Ch_take 6 = .ok (.lstore 6, 2) := by decide +kernel
theorem d_Ch_take_8 : decode b_Ch_take 8 = .ok (.aload_n 0, 1) := by decide +kernel
theorem d_Ch_take_9 : decode b_Ch_take 9 = .ok (.getfield 15, 3) := by decide +kernel
theorem d_Ch_take_12 : decode b_Ch_take 12 = .ok (.lload 4, 2) := by decide +kernel
theorem d_Ch_take_14 : decode b_Ch_take 14 = .ok (.lxor, 1) := by decide +kernel
theorem d_Ch_take_15 : decode b_Ch_take 15 = .ok (.lstore 8, 2) := by decide +kernel
theorem d_Ch_take_17 : decode b_Ch_take 17 = .ok (.aload_n 1, 1) := by decide +kernel
theorem d_Ch_take_18 : decode b_Ch_take 18 = .ok (.getfield 42, 3) := by decide +kernel
theorem d_Ch_take_21 : decode b_Ch_take 21 = .ok (.lstore 10, 2) := by decide +kernel
theorem d_Ch_take_23 : decode b_Ch_take 23 = .ok (.aload_n 1, 1) := by decide +kernel
theorem d_Ch_take_24 : decode b_Ch_take 24 = .ok (.getfield 45, 3) := by decide +kernel
theorem d_Ch_take_27 : decode b_Ch_take 27 = .ok (.lstore 12, 2) := by decide +kernel
theorem d_Ch_take_29 : decode b_Ch_take 29 = .ok (.aload_n 0, 1) := by decide +kernel
theorem d_Ch_take_30 : decode b_Ch_take 30 = .ok (.lconst 0, 1) := by decide +kernel
theorem d_Ch_take_31 : decode b_Ch_take 31 = .ok (.putfield 9, 3) := by decide +kernel
theorem d_Ch_take_34 : decode b_Ch_take 34 = .ok (.aload_n 0, 1) := by decide +kernel
theorem d_Ch_take_35 : decode b_Ch_take 35 = .ok (.lconst 0, 1) := by decide +kernel
theorem d_Ch_take_36 : decode b_Ch_take 36 = .ok (.putfield 15, 3) := by decide +kernel
theorem d_Ch_take_39 : decode b_Ch_take 39 = .ok (.iconst 0, 1) := by decide +kernel
theorem d_Ch_take_40 : decode b_Ch_take 40 = .ok (.istore 14, 2) := by decide +kernel
theorem d_Ch_take_42 : decode b_Ch_take 42 = .ok (.iload 14, 2) := by decide +kernel
theorem d_Ch_take_44 : decode b_Ch_take 44 = .ok (.sipush 128, 3) := by decide +kernel
theorem d_Ch_take_47 : decode b_Ch_take 47 = .ok (.if_icmp .ge 103, 3) := by decide +kernel
theorem d_Ch_take_50 : decode b_Ch_take 50 = .ok (.iload 14, 2) := by decide +kernel
theorem d_Ch_take_52 : decode b_Ch_take 52 = .ok (.bipush 64, 2) := by decide +kernel
theorem d_Ch_take_54 : decode b_Ch_take 54 = .ok (.if_icmp .ge 16, 3) := by decide +kernel
theorem d_Ch_take_57 : decode b_Ch_take 57 = .ok (.lload 6, 2) := by decide +kernel
theorem d_Ch_take_59 : decode b_Ch_take 59 = .ok (.bipush 63, 2) := by decide +kernel
theorem d_Ch_take_61 : decode b_Ch_take 61 = .ok (.iload 14, 2) := by decide +kernel
theorem d_Ch_take_63 : decode b_Ch_take 63 = .ok (.isub, 1) := by decide +kernel
theorem d_Ch_take_64 : decode b_Ch_take 64 = .ok (.lushr, 1) := by decide +kernel
theorem d_Ch_take_65 : decode b_Ch_take 65 = .ok (.lconst 1, 1) := by decide +kernel
theorem d_Ch_take_66 : decode b_Ch_take 66 = .ok (.land, 1) := by decide +kernel
theorem d_Ch_take_67 : decode b_Ch_take 67 = .ok (.goto 13, 3) := by decide +kernel

theorem d_Gp_bring_19 : decode b_Gp_bring 19 = .ok (.iload_n 1, 1) := by decide +kernel
theorem d_Gp_bring_20 : decode b_Gp_bring 20 = .ok (.aaload, 1) := by decide +kernel
theorem d_Gp_bring_21 : decode b_Gp_bring 21 = .ok (.getfield 147, 3) := by decide +kernel
theorem d_Gp_bring_24 : decode b_Gp_bring 24 = .ok (.ifCond .ne 5, 3) := by decide +kernel
theorem d_Gp_bring_27 : decode b_Gp_bring 27 = .ok (.iconst (-1), 1) := by decide +kernel
theorem d_Gp_bring_28 : decode b_Gp_bring 28 = .ok (.ireturn, 1) := by decide +kernel
theorem d_Gp_bring_29 : decode b_Gp_bring 29 = .ok (.aload_n 0, 1) := by decide +kernel
theorem d_Gp_bring_30 : decode b_Gp_bring 30 = .ok (.getfield 28, 3) := by decide +kernel
theorem d_Gp_bring_33 : decode b_Gp_bring 33 = .ok (.aload_n 0, 1) := by decide +kernel
theorem d_Gp_bring_34 : decode b_Gp_bring 34 = .ok (.getfield 31, 3) := by decide +kernel
theorem d_Gp_bring_37 : decode b_Gp_bring 37 = .ok (.iload_n 1, 1) := by decide +kernel
theorem d_Gp_bring_38 : decode b_Gp_bring 38 = .ok (.aaload, 1) := by decide +kernel
theorem d_Gp_bring_39 : decode b_Gp_bring 39 = .ok (.invokevirtual 143, 3) := by decide +kernel
theorem d_Gp_bring_42 : decode b_Gp_bring 42 = .ok (.aload_n 0, 1) := by decide +kernel
theorem d_Gp_bring_43 : decode b_Gp_bring 43 = .ok (.getfield 28, 3) := by decide +kernel
theorem d_Gp_bring_46 : decode b_Gp_bring 46 = .ok (.getfield 87, 3) := by decide +kernel
theorem d_Gp_bring_49 : decode b_Gp_bring 49 = .ok (.ireturn, 1) := by decide +kernel
theorem d_Gp_open_0 : decode b_Gp_open 0 = .ok (.aload_n 0, 1) := by decide +kernel
theorem d_Gp_open_1 : decode b_Gp_open 1 = .ok (.getfield 28, 3) := by decide +kernel
theorem d_Gp_open_4 : decode b_Gp_open 4 = .ok (.getfield 87, 3) := by decide +kernel
theorem d_Gp_open_7 : decode b_Gp_open 7 = .ok (.bipush 36, 2) := by decide +kernel
theorem d_Gp_open_9 : decode b_Gp_open 9 = .ok (.if_icmp .lt 15, 3) := by decide +kernel
theorem d_Gp_open_12 : decode b_Gp_open 12 = .ok (.aload_n 0, 1) := by decide +kernel
theorem d_Gp_open_13 : decode b_Gp_open 13 = .ok (.getfield 28, 3) := by decide +kernel
theorem d_Gp_open_16 : decode b_Gp_open 16 = .ok (.getfield 87, 3) := by decide +kernel
theorem d_Gp_open_19 : decode b_Gp_open 19 = .ok (.iconst 4, 1) := by decide +kernel
theorem d_Gp_open_20 : decode b_Gp_open 20 = .ok (.irem, 1) := by decide +kernel
theorem d_Gp_open_21 : decode b_Gp_open 21 = .ok (.ifCond .eq 5, 3) := by decide +kernel
theorem d_Gp_open_24 : decode b_Gp_open 24 = .ok (.iconst (-1), 1) := by decide +kernel
theorem d_Gp_open_25 : decode b_Gp_open 25 = .ok (.ireturn, 1) := by decide +kernel
theorem d_Gp_open_26 : decode b_Gp_open 26 = .ok (.aload_n 0, 1) := by decide +kernel
theorem d_Gp_open_27 : decode b_Gp_open 27 = .ok (.getfield 28, 3) := by decide +kernel
theorem d_Gp_open_30 : decode b_Gp_open 30 = .ok (.iconst 0, 1) := by decide +kernel
theorem d_Gp_open_31 : decode b_Gp_open 31 = .ok (.iconst 4, 1) := by decide +kernel
theorem d_Gp_open_32 : decode b_Gp_open 32 = .ok (.invokevirtual 151, 3) := by decide +kernel
theorem d_Gp_open_35 : decode b_Gp_open 35 = .ok (.l2i, 1) := by decide +kernel
theorem d_Gp_open_36 : decode b_Gp_open 36 = .ok (.istore_n 1, 1) := by decide +kernel
theorem d_Gp_open_37 : decode b_Gp_open 37 = .ok (.aload_n 0, 1) := by decide +kernel
theorem d_Gp_open_38 : decode b_Gp_open 38 = .ok (.iload_n 1, 1) := by decide +kernel
theorem d_Gp_open_39 : decode b_Gp_open 39 = .ok (.invokevirtual 56, 3) := by decide +kernel
theorem d_Gp_open_42 : decode b_Gp_open 42 = .ok (.istore_n 2, 1) := by decide +kernel
theorem d_Gp_open_43 : decode b_Gp_open 43 = .ok (.aload_n 0, 1) := by decide +kernel
theorem d_Gp_open_44 : decode b_Gp_open 44 = .ok (.iload_n 2, 1) := by decide +kernel
theorem d_Gp_open_45 : decode b_Gp_open 45 = .ok (.iload_n 1, 1) := by decide +kernel
theorem d_Gp_open_46 : decode b_Gp_open 46 = .ok (.invokevirtual 60, 3) := by decide +kernel
theorem d_Gp_open_49 : decode b_Gp_open 49 = .ok (.ifCond .ne 6, 3) := by decide +kernel
theorem d_Gp_open_52 : decode b_Gp_open 52 = .ok (.bipush (-2), 2) := by decide +kernel
theorem d_Gp_open_54 : decode b_Gp_open 54 = .ok (.ireturn, 1) := by decide +kernel
theorem d_Gp_open_55 : decode b_Gp_open 55 = .ok (.aload_n 0, 1) := by decide +kernel
theorem d_Gp_open_56 : decode b_Gp_open 56 = .ok (.getfield 11, 3) := by decide +kernel
theorem d_Gp_open_59 : decode b_Gp_open 59 = .ok (.iload_n 2, 1) := by decide +kernel
theorem d_Gp_open_60 : decode b_Gp_open 60 = .ok (.aaload, 1) := by decide +kernel
theorem d_Gp_open_61 : decode b_Gp_open 61 = .ok (.astore_n 3, 1) := by decide +kernel
theorem d_Gp_open_62 : decode b_Gp_open 62 = .ok (.aload_n 3, 1) := by decide +kernel
theorem d_Gp_open_63 : decode b_Gp_open 63 = .ok (.aload_n 0, 1) := by decide +kernel
theorem d_Gp_open_64 : decode b_Gp_open 64 = .ok (.getfield 28, 3) := by decide +kernel
theorem d_Gp_open_67 : decode b_Gp_open 67 = .ok (.iconst 4, 1) := by decide +kernel
theorem d_Gp_open_68 : decode b_Gp_open 68 = .ok (.iconst 4, 1) := by decide +kernel
theorem d_Gp_open_69 : decode b_Gp_open 69 = .ok (.invokevirtual 151, 3) := by decide +kernel
theorem d_Gp_open_72 : decode b_Gp_open 72 = .ok (.invokevirtual 155, 3) := by decide +kernel
theorem d_Gp_open_75 : decode b_Gp_open 75 = .ok (.lstore 4, 2) := by decide +kernel
theorem d_Gp_open_77 : decode b_Gp_open 77 = .ok (.aload_n 3, 1) := by decide +kernel
theorem d_Gp_open_78 : decode b_Gp_open 78 = .ok (.lload 4, 2) := by decide +kernel
theorem d_Gp_open_80 : decode b_Gp_open 80 = .ok (.invokevirtual 159, 3) := by decide +kernel
theorem d_Gp_open_83 : decode b_Gp_open 83 = .ok (.ifCond .ne 16, 3) := by decide +kernel
theorem d_Gp_open_86 : decode b_Gp_open 86 = .ok (.aload_n 3, 1) := by decide +kernel
theorem d_Gp_open_87 : decode b_Gp_open 87 = .ok (.dup, 1) := by decide +kernel
theorem d_Gp_open_88 : decode b_Gp_open 88 = .ok (.getfield 163, 3) := by decide +kernel
theorem d_Gp_open_91 : decode b_Gp_open 91 = .ok (.lconst 1, 1) := by decide +kernel
theorem d_Gp_open_92 : decode b_Gp_open 92 = .ok (.ladd, 1) := by decide +kernel
theorem d_Gp_open_93 : decode b_Gp_open 93 = .ok (.putfield 163, 3) := by decide +kernel
theorem d_Gp_open_96 : decode b_Gp_open 96 = .ok (.bipush (-3), 2) := by decide +kernel
theorem d_Gp_open_98 : decode b_Gp_open 98 = .ok (.ireturn, 1) := by decide +kernel
theorem d_Gp_open_99 : decode b_Gp_open 99 = .ok (.aload_n 0, 1) := by decide +kernel
theorem d_Gp_open_100 : decode b_Gp_open 100 = .ok (.aload_n 3, 1) := by decide +kernel
theorem d_Gp_open_101 : decode b_Gp_open 101 = .ok (.lload 4, 2) := by decide +kernel
theorem d_Gp_open_103 : decode b_Gp_open 103 = .ok (.invokevirtual 166, 3) := by decide +kernel
theorem d_Gp_open_106 : decode b_Gp_open 106 = .ok (.ifCond .ne 16, 3) := by decide +kernel
theorem d_Gp_open_109 : decode b_Gp_open 109 = .ok (.aload_n 3, 1) := by decide +kernel
theorem d_Gp_open_110 : decode b_Gp_open 110 = .ok (.dup, 1) := by decide +kernel
theorem d_Gp_open_111 : decode b_Gp_open 111 = .ok (.getfield 170, 3) := by decide +kernel
theorem d_Gp_open_114 : decode b_Gp_open 114 = .ok (.lconst 1, 1) := by decide +kernel
theorem d_Gp_open_115 : decode b_Gp_open 115 = .ok (.ladd, 1) := by decide +kernel
theorem d_Gp_open_116 : decode b_Gp_open 116 = .ok (.putfield 170, 3) := by decide +kernel
theorem d_Gp_open_119 : decode b_Gp_open 119 = .ok (.bipush (-4), 2) := by decide +kernel
theorem d_Gp_open_121 : decode b_Gp_open 121 = .ok (.ireturn, 1) := by decide +kernel
theorem d_Gp_open_122 : decode b_Gp_open 122 = .ok (.aload_n 3, 1) := by decide +kernel
theorem d_Gp_open_123 : decode b_Gp_open 123 = .ok (.lload 4, 2) := by decide +kernel
theorem d_Gp_open_125 : decode b_Gp_open 125 = .ok (.invokevirtual 173, 3) := by decide +kernel
theorem d_Gp_open_128 : decode b_Gp_open 128 = .ok (.aload_n 0, 1) := by decide +kernel
theorem d_Gp_open_129 : decode b_Gp_open 129 = .ok (.aload_n 3, 1) := by decide +kernel
theorem d_Gp_open_130 : decode b_Gp_open 130 = .ok (.invokevirtual 177, 3) := by decide +kernel
theorem d_Gp_open_133 : decode b_Gp_open 133 = .ok (.ireturn, 1) := by decide +kernel
theorem d_Gp_got_0 : decode b_Gp_got 0 = .ok (.aload_n 0, 1) := by decide +kernel
theorem d_Gp_got_1 : decode b_Gp_got 1 = .ok (.getfield 38, 3) := by decide +kernel
theorem d_Gp_got_4 : decode b_Gp_got 4 = .ok (.getfield 87, 3) := by decide +kernel
theorem d_Gp_got_7 : decode b_Gp_got 7 = .ok (.ireturn, 1) := by decide +kernel
theorem d_Gp_data_0 : decode b_Gp_data 0 = .ok (.aload_n 0, 1) := by decide +kernel
theorem d_Gp_data_1 : decode b_Gp_data 1 = .ok (.getfield 38, 3) := by decide +kernel
theorem d_Gp_data_4 : decode b_Gp_data 4 = .ok (.iload_n 1, 1) := by decide +kernel
theorem d_Gp_data_5 : decode b_Gp_data 5 = .ok (.invokevirtual 125, 3) := by decide +kernel
theorem d_Gp_data_8 : decode b_Gp_data 8 = .ok (.lreturn, 1) := by decide +kernel
theorem d_Gp_told_0 : decode b_Gp_told 0 = .ok (.aload_n 0, 1) := by decide +kernel
theorem d_Gp_told_1 : decode b_Gp_told 1 = .ok (.iload_n 1, 1) := by decide +kernel
theorem d_Gp_told_2 : decode b_Gp_told 2 = .ok (.invokevirtual 72, 3) := by decide +kernel
theorem d_Gp_told_5 : decode b_Gp_told 5 = .ok (.astore_n 3, 1) := by decide +kernel
theorem d_Gp_told_6 : decode b_Gp_told 6 = .ok (.iload_n 2, 1) := by decide +kernel
theorem d_Gp_told_7 : decode b_Gp_told 7 = .ok (.tableswitch 101 0 7 #[45, 50, 58, 63, 68, 73, 79, 88], 45) := by decide +kernel
theorem d_Gp_told_52 : decode b_Gp_told 52 = .ok (.aload_n 3, 1) := by decide +kernel
theorem d_Gp_told_53 : decode b_Gp_told 53 = .ok (.getfield 76, 3) := by decide +kernel
theorem d_Gp_told_56 : decode b_Gp_told 56 = .ok (.lreturn, 1) := by decide +kernel
theorem d_Gp_told_57 : decode b_Gp_told 57 = .ok (.aload_n 3, 1) := by decide +kernel
theorem d_Gp_told_58 : decode b_Gp_told 58 = .ok (.getfield 181, 3) := by decide +kernel
theorem d_Gp_told_61 : decode b_Gp_told 61 = .ok (.getfield 185, 3) := by decide +kernel
theorem d_Gp_told_64 : decode b_Gp_told 64 = .ok (.lreturn, 1) := by decide +kernel
theorem d_Gp_told_65 : decode b_Gp_told 65 = .ok (.aload_n 3, 1) := by decide +kernel
theorem d_Gp_told_66 : decode b_Gp_told 66 = .ok (.getfield 190, 3) := by decide +kernel
theorem d_Gp_told_69 : decode b_Gp_told 69 = .ok (.lreturn, 1) := by decide +kernel
theorem d_Gp_told_70 : decode b_Gp_told 70 = .ok (.aload_n 3, 1) := by decide +kernel
theorem d_Gp_told_71 : decode b_Gp_told 71 = .ok (.getfield 163, 3) := by decide +kernel
theorem d_Gp_told_74 : decode b_Gp_told 74 = .ok (.lreturn, 1) := by decide +kernel
theorem d_Gp_told_75 : decode b_Gp_told 75 = .ok (.aload_n 3, 1) := by decide +kernel
theorem d_Gp_told_76 : decode b_Gp_told 76 = .ok (.getfield 170, 3) := by decide +kernel
theorem d_Gp_told_79 : decode b_Gp_told 79 = .ok (.lreturn, 1) := by decide +kernel
theorem d_Gp_told_80 : decode b_Gp_told 80 = .ok (.aload_n 3, 1) := by decide +kernel
theorem d_Gp_told_81 : decode b_Gp_told 81 = .ok (.getfield 84, 3) := by decide +kernel
theorem d_Gp_told_84 : decode b_Gp_told 84 = .ok (.i2l, 1) := by decide +kernel
theorem d_Gp_told_85 : decode b_Gp_told 85 = .ok (.lreturn, 1) := by decide +kernel
theorem d_Gp_told_86 : decode b_Gp_told 86 = .ok (.aload_n 3, 1) := by decide +kernel
theorem d_Gp_told_87 : decode b_Gp_told 87 = .ok (.getfield 181, 3) := by decide +kernel
theorem d_Gp_told_90 : decode b_Gp_told 90 = .ok (.getfield 193, 3) := by decide +kernel
theorem d_Gp_told_93 : decode b_Gp_told 93 = .ok (.i2l, 1) := by decide +kernel
theorem d_Gp_told_94 : decode b_Gp_told 94 = .ok (.lreturn, 1) := by decide +kernel
theorem d_Gp_told_95 : decode b_Gp_told 95 = .ok (.aload_n 3, 1) := by decide +kernel
theorem d_Gp_told_96 : decode b_Gp_told 96 = .ok (.getfield 196, 3) := by decide +kernel
theorem d_Gp_told_99 : decode b_Gp_told 99 = .ok (.ifCond .eq 7, 3) := by decide +kernel
theorem d_Gp_told_102 : decode b_Gp_told 102 = .ok (.lconst 1, 1) := by decide +kernel
theorem d_Gp_told_103 : decode b_Gp_told 103 = .ok (.goto 4, 3) := by decide +kernel
theorem d_Gp_told_106 : decode b_Gp_told 106 = .ok (.lconst 0, 1) := by decide +kernel
theorem d_Gp_told_107 : decode b_Gp_told 107 = .ok (.lreturn, 1) := by decide +kernel
theorem d_Gp_told_108 : decode b_Gp_told 108 = .ok (.new 53, 3) := by decide +kernel
theorem d_Gp_told_111 : decode b_Gp_told 111 = .ok (.dup, 1) := by decide +kernel
theorem d_Gp_told_112 : decode b_Gp_told 112 = .ok (.invokespecial 55, 3) := by decide +kernel
theorem d_Gp_told_115 : decode b_Gp_told 115 = .ok (.athrow, 1) := by decide +kernel
theorem d_Gp_given_0 : decode b_Gp_given 0 = .ok (.aload_n 0, 1) := by decide +kernel
theorem d_Gp_given_1 : decode b_Gp_given 1 = .ok (.iload_n 1, 1) := by decide +kernel
theorem d_Gp_given_2 : decode b_Gp_given 2 = .ok (.invokevirtual 72, 3) := by decide +kernel
theorem d_Gp_given_5 : decode b_Gp_given 5 = .ok (.astore_n 3, 1) := by decide +kernel
theorem d_Gp_given_6 : decode b_Gp_given 6 = .ok (.iload_n 2, 1) := by decide +kernel
theorem d_Gp_given_7 : decode b_Gp_given 7 = .ok (.ifCond .ge 11, 3) := by decide +kernel
theorem d_Gp_given_10 : decode b_Gp_given 10 = .ok (.new 53, 3) := by decide +kernel
theorem d_Gp_given_13 : decode b_Gp_given 13 = .ok (.dup, 1) := by decide +kernel
theorem d_Gp_given_14 : decode b_Gp_given 14 = .ok (.invokespecial 55, 3) := by decide +kernel
theorem d_Gp_given_17 : decode b_Gp_given 17 = .ok (.athrow, 1) := by decide +kernel
theorem d_Gp_given_18 : decode b_Gp_given 18 = .ok (.aload_n 3, 1) := by decide +kernel
theorem d_Gp_given_19 : decode b_Gp_given 19 = .ok (.getfield 181, 3) := by decide +kernel
theorem d_Gp_given_22 : decode b_Gp_given 22 = .ok (.iload_n 2, 1) := by decide +kernel
theorem d_Gp_given_23 : decode b_Gp_given 23 = .ok (.invokevirtual 199, 3) := by decide +kernel
theorem d_Gp_given_26 : decode b_Gp_given 26 = .ok (.lreturn, 1) := by decide +kernel
theorem d_Gp_name_0 : decode b_Gp_name 0 = .ok (.iload_n 1, 1) := by decide +kernel
theorem d_Gp_name_1 : decode b_Gp_name 1 = .ok (.ifCond .lt 23, 3) := by decide +kernel
theorem d_Gp_name_4 : decode b_Gp_name 4 = .ok (.iload_n 1, 1) := by decide +kernel
theorem d_Gp_name_5 : decode b_Gp_name 5 = .ok (.aload_n 0, 1) := by decide +kernel
theorem d_Gp_name_6 : decode b_Gp_name 6 = .ok (.getfield 15, 3) := by decide +kernel
theorem d_Gp_name_9 : decode b_Gp_name 9 = .ok (.if_icmp .ge 15, 3) := by decide +kernel
theorem d_Gp_name_12 : decode b_Gp_name 12 = .ok (.aload_n 0, 1) := by decide +kernel
theorem d_Gp_name_13 : decode b_Gp_name 13 = .ok (.getfield 11, 3) := by decide +kernel
theorem d_Gp_name_16 : decode b_Gp_name 16 = .ok (.iload_n 1, 1) := by decide +kernel
theorem d_Gp_name_17 : decode b_Gp_name 17 = .ok (.aaload, 1) := by decide +kernel
theorem d_Gp_name_18 : decode b_Gp_name 18 = .ok (.getfield 202, 3) := by decide +kernel
theorem d_Gp_name_21 : decode b_Gp_name 21 = .ok (.goto 4, 3) := by decide +kernel
theorem d_Gp_name_24 : decode b_Gp_name 24 = .ok (.iconst (-1), 1) := by decide +kernel
theorem d_Gp_name_25 : decode b_Gp_name 25 = .ok (.ireturn, 1) := by decide +kernel
theorem d_Gp_isWindow_0 : decode b_Gp_isWindow 0 = .ok (.iload_n 0, 1) := by decide +kernel
theorem d_Gp_isWindow_1 : decode b_Gp_isWindow 1 = .ok (.bipush 32, 2) := by decide +kernel
theorem d_Gp_isWindow_3 : decode b_Gp_isWindow 3 = .ok (.if_icmp .lt 21, 3) := by decide +kernel
theorem d_Gp_isWindow_6 : decode b_Gp_isWindow 6 = .ok (.iload_n 0, 1) := by decide +kernel
theorem d_Gp_isWindow_7 : decode b_Gp_isWindow 7 = .ok (.sipush 1024, 3) := by decide +kernel
theorem d_Gp_isWindow_10 : decode b_Gp_isWindow 10 = .ok (.if_icmp .gt 14, 3) := by decide +kernel
theorem d_Gp_isWindow_13 : decode b_Gp_isWindow 13 = .ok (.iload_n 0, 1) := by decide +kernel
theorem d_Gp_isWindow_14 : decode b_Gp_isWindow 14 = .ok (.bipush 32, 2) := by decide +kernel
theorem d_Gp_isWindow_16 : decode b_Gp_isWindow 16 = .ok (.irem, 1) := by decide +kernel
theorem d_Gp_isWindow_17 : decode b_Gp_isWindow 17 = .ok (.ifCond .ne 7, 3) := by decide +kernel
theorem d_Gp_isWindow_20 : decode b_Gp_isWindow 20 = .ok (.iconst 1, 1) := by decide +kernel
theorem d_Gp_isWindow_21 : decode b_Gp_isWindow 21 = .ok (.goto 4, 3) := by decide +kernel
theorem d_Gp_isWindow_24 : decode b_Gp_isWindow 24 = .ok (.iconst 0, 1) := by decide +kernel
theorem d_Gp_isWindow_25 : decode b_Gp_isWindow 25 = .ok (.ireturn, 1) := by decide +kernel
theorem d_Gp_isByte_0 : decode b_Gp_isByte 0 = .ok (.iload_n 0, 1) := by decide +kernel
theorem d_Gp_isByte_1 : decode b_Gp_isByte 1 = .ok (.ifCond .lt 14, 3) := by decide +kernel
theorem d_Gp_isByte_4 : decode b_Gp_isByte 4 = .ok (.iload_n 0, 1) := by decide +kernel
theorem d_Gp_isByte_5 : decode b_Gp_isByte 5 = .ok (.sipush 255, 3) := by decide +kernel
theorem d_Gp_isByte_8 : decode b_Gp_isByte 8 = .ok (.if_icmp .gt 7, 3) := by decide +kernel
theorem d_Gp_isByte_11 : decode b_Gp_isByte 11 = .ok (.iconst 1, 1) := by decide +kernel
theorem d_Gp_isByte_12 : decode b_Gp_isByte 12 = .ok (.goto 4, 3) := by decide +kernel
theorem d_Gp_isByte_15 : decode b_Gp_isByte 15 = .ok (.iconst 0, 1) := by decide +kernel
theorem d_Gp_isByte_16 : decode b_Gp_isByte 16 = .ok (.ireturn, 1) := by decide +kernel
theorem d_Gp_isPlace_0 : decode b_Gp_isPlace 0 = .ok (.iload_n 0, 1) := by decide +kernel
theorem d_Gp_isPlace_1 : decode b_Gp_isPlace 1 = .ok (.ifCond .lt 13, 3) := by decide +kernel
theorem d_Gp_isPlace_4 : decode b_Gp_isPlace 4 = .ok (.iload_n 0, 1) := by decide +kernel
theorem d_Gp_isPlace_5 : decode b_Gp_isPlace 5 = .ok (.bipush 8, 2) := by decide +kernel
theorem d_Gp_isPlace_7 : decode b_Gp_isPlace 7 = .ok (.if_icmp .ge 7, 3) := by decide +kernel
theorem d_Gp_isPlace_10 : decode b_Gp_isPlace 10 = .ok (.iconst 1, 1) := by decide +kernel
theorem d_Gp_isPlace_11 : decode b_Gp_isPlace 11 = .ok (.goto 4, 3) := by decide +kernel
theorem d_Gp_isPlace_14 : decode b_Gp_isPlace 14 = .ok (.iconst 0, 1) := by decide +kernel
theorem d_Gp_isPlace_15 : decode b_Gp_isPlace 15 = .ok (.ireturn, 1) := by decide +kernel
theorem d_Gp_placeOf_0 : decode b_Gp_placeOf 0 = .ok (.iconst 0, 1) := by decide +kernel
theorem d_Gp_placeOf_1 : decode b_Gp_placeOf 1 = .ok (.istore_n 2, 1) := by decide +kernel
theorem d_Gp_placeOf_2 : decode b_Gp_placeOf 2 = .ok (.iload_n 2, 1) := by decide +kernel
theorem d_Gp_placeOf_3 : decode b_Gp_placeOf 3 = .ok (.aload_n 0, 1) := by decide +kernel
theorem d_Gp_placeOf_4 : decode b_Gp_placeOf 4 = .ok (.getfield 15, 3) := by decide +kernel
theorem d_Gp_placeOf_7 : decode b_Gp_placeOf 7 = .ok (.if_icmp .ge 22, 3) := by decide +kernel
theorem d_Gp_placeOf_10 : decode b_Gp_placeOf 10 = .ok (.aload_n 0, 1) := by decide +kernel
theorem d_Gp_placeOf_11 : decode b_Gp_placeOf 11 = .ok (.getfield 11, 3) := by decide +kernel
theorem d_Gp_placeOf_14 : decode b_Gp_placeOf 14 = .ok (.iload_n 2, 1) := by decide +kernel
theorem d_Gp_placeOf_15 : decode b_Gp_placeOf 15 = .ok (.aaload, 1) := by decide +kernel
theorem d_Gp_placeOf_16 : decode b_Gp_placeOf 16 = .ok (.getfield 202, 3) := by decide +kernel
theorem d_Gp_placeOf_19 : decode b_Gp_placeOf 19 = .ok (.iload_n 1, 1) := by decide +kernel
theorem d_Gp_placeOf_20 : decode b_Gp_placeOf 20 = .ok (.if_icmp .ge 9, 3) := by decide +kernel
theorem d_Gp_placeOf_23 : decode b_Gp_placeOf 23 = .ok (.iinc 2 1, 3) := by decide +kernel
theorem d_Gp_placeOf_26 : decode b_Gp_placeOf 26 = .ok (.goto (-24), 3) := by decide +kernel
theorem d_Gp_placeOf_29 : decode b_Gp_placeOf 29 = .ok (.iload_n 2, 1) := by decide +kernel
theorem d_Gp_placeOf_30 : decode b_Gp_placeOf 30 = .ok (.ireturn, 1) := by decide +kernel
theorem d_Gp_isAt_0 : decode b_Gp_isAt 0 = .ok (.iload_n 1, 1) := by decide +kernel
theorem d_Gp_isAt_1 : decode b_Gp_isAt 1 = .ok (.aload_n 0, 1) := by decide +kernel
theorem d_Gp_isAt_2 : decode b_Gp_isAt 2 = .ok (.getfield 15, 3) := by decide +kernel
theorem d_Gp_isAt_5 : decode b_Gp_isAt 5 = .ok (.if_icmp .ge 20, 3) := by decide +kernel
theorem d_Gp_isAt_8 : decode b_Gp_isAt 8 = .ok (.aload_n 0, 1) := by decide +kernel
theorem d_Gp_isAt_9 : decode b_Gp_isAt 9 = .ok (.getfield 11, 3) := by decide +kernel
theorem d_Gp_isAt_12 : decode b_Gp_isAt 12 = .ok (.iload_n 1, 1) := by decide +kernel
theorem d_Gp_isAt_13 : decode b_Gp_isAt 13 = .ok (.aaload, 1) := by decide +kernel
theorem d_Gp_isAt_14 : decode b_Gp_isAt 14 = .ok (.getfield 202, 3) := by decide +kernel
theorem d_Gp_isAt_17 : decode b_Gp_isAt 17 = .ok (.iload_n 2, 1) := by decide +kernel
theorem d_Gp_isAt_18 : decode b_Gp_isAt 18 = .ok (.if_icmp .ne 7, 3) := by decide +kernel
theorem d_Gp_isAt_21 : decode b_Gp_isAt 21 = .ok (.iconst 1, 1) := by decide +kernel
theorem d_Gp_isAt_22 : decode b_Gp_isAt 22 = .ok (.goto 4, 3) := by decide +kernel
theorem d_Gp_isAt_25 : decode b_Gp_isAt 25 = .ok (.iconst 0, 1) := by decide +kernel
theorem d_Gp_isAt_26 : decode b_Gp_isAt 26 = .ok (.ireturn, 1) := by decide +kernel
theorem d_Gp_known_0 : decode b_Gp_known 0 = .ok (.aload_n 0, 1) := by decide +kernel
theorem d_Gp_known_1 : decode b_Gp_known 1 = .ok (.iload_n 1, 1) := by decide +kernel
theorem d_Gp_known_2 : decode b_Gp_known 2 = .ok (.invokevirtual 56, 3) := by decide +kernel
theorem d_Gp_known_5 : decode b_Gp_known 5 = .ok (.istore_n 2, 1) := by decide +kernel
theorem d_Gp_known_6 : decode b_Gp_known 6 = .ok (.aload_n 0, 1) := by decide +kernel
theorem d_Gp_known_7 : decode b_Gp_known 7 = .ok (.iload_n 2, 1) := by decide +kernel
theorem d_Gp_known_8 : decode b_Gp_known 8 = .ok (.iload_n 1, 1) := by decide +kernel
theorem d_Gp_known_9 : decode b_Gp_known 9 = .ok (.invokevirtual 60, 3) := by decide +kernel
theorem d_Gp_known_12 : decode b_Gp_known 12 = .ok (.ifCond .ne 11, 3) := by decide +kernel
theorem d_Gp_known_15 : decode b_Gp_known 15 = .ok (.new 205, 3) := by decide +kernel
theorem d_Gp_known_18 : decode b_Gp_known 18 = .ok (.dup, 1) := by decide +kernel
theorem d_Gp_known_19 : decode b_Gp_known 19 = .ok (.invokespecial 207, 3) := by decide +kernel
theorem d_Gp_known_22 : decode b_Gp_known 22 = .ok (.athrow, 1) := by decide +kernel
theorem d_Gp_known_23 : decode b_Gp_known 23 = .ok (.aload_n 0, 1) := by decide +kernel
theorem d_Gp_known_24 : decode b_Gp_known 24 = .ok (.getfield 11, 3) := by decide +kernel
theorem d_Gp_known_27 : decode b_Gp_known 27 = .ok (.iload_n 2, 1) := by decide +kernel
theorem d_Gp_known_28 : decode b_Gp_known 28 = .ok (.aaload, 1) := by decide +kernel
theorem d_Gp_known_29 : decode b_Gp_known 29 = .ok (.areturn, 1) := by decide +kernel
theorem d_Gp_writePlain_0 : decode b_Gp_writePlain 0 = .ok (.aload_n 0, 1) := by decide +kernel
theorem d_Gp_writePlain_1 : decode b_Gp_writePlain 1 = .ok (.getfield 28, 3) := by decide +kernel
theorem d_Gp_writePlain_4 : decode b_Gp_writePlain 4 = .ok (.invokevirtual 208, 3) := by decide +kernel
theorem d_Gp_writePlain_7 : decode b_Gp_writePlain 7 = .ok (.aload_n 0, 1) := by decide +kernel
theorem d_Gp_writePlain_8 : decode b_Gp_writePlain 8 = .ok (.getfield 28, 3) := by decide +kernel
theorem d_Gp_writePlain_11 : decode b_Gp_writePlain 11 = .ok (.aload_n 1, 1) := by decide +kernel
theorem d_Gp_writePlain_12 : decode b_Gp_writePlain 12 = .ok (.getfield 202, 3) := by decide +kernel
theorem d_Gp_writePlain_15 : decode b_Gp_writePlain 15 = .ok (.i2l, 1) := by decide +kernel
theorem d_Gp_writePlain_16 : decode b_Gp_writePlain 16 = .ok (.iconst 4, 1) := by decide +kernel
theorem d_Gp_writePlain_17 : decode b_Gp_writePlain 17 = .ok (.invokevirtual 118, 3) := by decide +kernel
theorem d_Gp_writePlain_20 : decode b_Gp_writePlain 20 = .ok (.aload_n 0, 1) := by decide +kernel
theorem d_Gp_writePlain_21 : decode b_Gp_writePlain 21 = .ok (.getfield 28, 3) := by decide +kernel
theorem d_Gp_writePlain_24 : decode b_Gp_writePlain 24 = .ok (.aload_n 1, 1) := by decide +kernel
theorem d_Gp_writePlain_25 : decode b_Gp_writePlain 25 = .ok (.getfield 76, 3) := by decide +kernel
theorem d_Gp_writePlain_28 : decode b_Gp_writePlain 28 = .ok (.iconst 4, 1) := by decide +kernel
theorem d_Gp_writePlain_29 : decode b_Gp_writePlain 29 = .ok (.invokevirtual 118, 3) := by decide +kernel
theorem d_Gp_writePlain_32 : decode b_Gp_writePlain 32 = .ok (.aload_n 0, 1) := by decide +kernel
theorem d_Gp_writePlain_33 : decode b_Gp_writePlain 33 = .ok (.getfield 28, 3) := by decide +kernel
theorem d_Gp_writePlain_36 : decode b_Gp_writePlain 36 = .ok (.aload_n 1, 1) := by decide +kernel
theorem d_Gp_writePlain_37 : decode b_Gp_writePlain 37 = .ok (.getfield 76, 3) := by decide +kernel
theorem d_Gp_writePlain_40 : decode b_Gp_writePlain 40 = .ok (.bipush 8, 2) := by decide +kernel
theorem d_Gp_writePlain_42 : decode b_Gp_writePlain 42 = .ok (.invokevirtual 118, 3) := by decide +kernel
theorem d_Gp_writePlain_45 : decode b_Gp_writePlain 45 = .ok (.aload_n 0, 1) := by decide +kernel
theorem d_Gp_writePlain_46 : decode b_Gp_writePlain 46 = .ok (.getfield 28, 3) := by decide +kernel
theorem d_Gp_writePlain_49 : decode b_Gp_writePlain 49 = .ok (.aload_n 0, 1) := by decide +kernel
theorem d_Gp_writePlain_50 : decode b_Gp_writePlain 50 = .ok (.getfield 24, 3) := by decide +kernel
theorem d_Gp_writePlain_53 : decode b_Gp_writePlain 53 = .ok (.iconst 0, 1) := by decide +kernel
theorem d_Gp_writePlain_54 : decode b_Gp_writePlain 54 = .ok (.aload_n 0, 1) := by decide +kernel
theorem d_Gp_writePlain_55 : decode b_Gp_writePlain 55 = .ok (.getfield 24, 3) := by decide +kernel
theorem d_Gp_writePlain_58 : decode b_Gp_writePlain 58 = .ok (.getfield 87, 3) := by decide +kernel
theorem d_Gp_writePlain_61 : decode b_Gp_writePlain 61 = .ok (.invokevirtual 211, 3) := by decide +kernel
theorem d_Gp_writePlain_64 : decode b_Gp_writePlain 64 = .ok (.iconst 4, 1) := by decide +kernel
theorem d_Gp_writePlain_65 : decode b_Gp_writePlain 65 = .ok (.aload_n 0, 1) := by decide +kernel
theorem d_Gp_writePlain_66 : decode b_Gp_writePlain 66 = .ok (.getfield 24, 3) := by decide +kernel
theorem d_Gp_writePlain_69 : decode b_Gp_writePlain 69 = .ok (.getfield 87, 3) := by decide +kernel
theorem d_Gp_writePlain_72 : decode b_Gp_writePlain 72 = .ok (.iconst 2, 1) := by decide +kernel
theorem d_Gp_writePlain_73 : decode b_Gp_writePlain 73 = .ok (.iadd, 1) := by decide +kernel
theorem d_Gp_writePlain_74 : decode b_Gp_writePlain 74 = .ok (.iconst 4, 1) := by decide +kernel
theorem d_Gp_writePlain_75 : decode b_Gp_writePlain 75 = .ok (.irem, 1) := by decide +kernel
theorem d_Gp_writePlain_76 : decode b_Gp_writePlain 76 = .ok (.isub, 1) := by decide +kernel
theorem d_Gp_writePlain_77 : decode b_Gp_writePlain 77 = .ok (.iconst 4, 1) := by decide +kernel
theorem d_Gp_writePlain_78 : decode b_Gp_writePlain 78 = .ok (.irem, 1) := by decide +kernel
theorem d_Gp_writePlain_79 : decode b_Gp_writePlain 79 = .ok (.istore_n 3, 1) := by decide +kernel
theorem d_Gp_writePlain_80 : decode b_Gp_writePlain 80 = .ok (.iconst 1, 1) := by decide +kernel
theorem d_Gp_writePlain_81 : decode b_Gp_writePlain 81 = .ok (.istore 4, 2) := by decide +kernel
theorem d_Gp_writePlain_83 : decode b_Gp_writePlain 83 = .ok (.iload 4, 2) := by decide +kernel
theorem d_Gp_writePlain_85 : decode b_Gp_writePlain 85 = .ok (.iload_n 3, 1) := by decide +kernel
theorem d_Gp_writePlain_86 : decode b_Gp_writePlain 86 = .ok (.if_icmp .gt 18, 3) := by decide +kernel
theorem d_Gp_writePlain_89 : decode b_Gp_writePlain 89 = .ok (.aload_n 0, 1) := by decide +kernel
theorem d_Gp_writePlain_90 : decode b_Gp_writePlain 90 = .ok (.getfield 28, 3) := by decide +kernel
theorem d_Gp_writePlain_93 : decode b_Gp_writePlain 93 = .ok (.iload 4, 2) := by decide +kernel
theorem d_Gp_writePlain_95 : decode b_Gp_writePlain 95 = .ok (.invokevirtual 90, 3) := by decide +kernel
theorem d_Gp_writePlain_98 : decode b_Gp_writePlain 98 = .ok (.iinc 4 1, 3) := by decide +kernel
theorem d_Gp_writePlain_101 : decode b_Gp_writePlain 101 = .ok (.goto (-18), 3) := by decide +kernel
theorem d_Gp_writePlain_104 : decode b_Gp_writePlain 104 = .ok (.aload_n 0, 1) := by decide +kernel
theorem d_Gp_writePlain_105 : decode b_Gp_writePlain 105 = .ok (.getfield 28, 3) := by decide +kernel
theorem d_Gp_writePlain_108 : decode b_Gp_writePlain 108 = .ok (.iload_n 3, 1) := by decide +kernel
theorem d_Gp_writePlain_109 : decode b_Gp_writePlain 109 = .ok (.invokevirtual 90, 3) := by decide +kernel
theorem d_Gp_writePlain_112 : decode b_Gp_writePlain 112 = .ok (.aload_n 0, 1) := by decide +kernel
theorem d_Gp_writePlain_113 : decode b_Gp_writePlain 113 = .ok (.getfield 28, 3) := by decide +kernel
theorem d_Gp_writePlain_116 : decode b_Gp_writePlain 116 = .ok (.iload_n 2, 1) := by decide +kernel
theorem d_Gp_writePlain_117 : decode b_Gp_writePlain 117 = .ok (.invokevirtual 90, 3) := by decide +kernel
theorem d_Gp_writePlain_120 : decode b_Gp_writePlain 120 = .ok (.return_, 1) := by decide +kernel
theorem d_Gp_isSealRight_0 : decode b_Gp_isSealRight 0 = .ok (.aload_n 0, 1) := by decide +kernel
theorem d_Gp_isSealRight_1 : decode b_Gp_isSealRight 1 = .ok (.getfield 28, 3) := by decide +kernel
theorem d_Gp_isSealRight_4 : decode b_Gp_isSealRight 4 = .ok (.getfield 87, 3) := by decide +kernel
theorem d_Gp_isSealRight_7 : decode b_Gp_isSealRight 7 = .ok (.bipush 16, 2) := by decide +kernel
theorem d_Gp_isSealRight_9 : decode b_Gp_isSealRight 9 = .ok (.isub, 1) := by decide +kernel
theorem d_Gp_isSealRight_10 : decode b_Gp_isSealRight 10 = .ok (.istore 4, 2) := by decide +kernel
theorem d_Gp_isSealRight_12 : decode b_Gp_isSealRight 12 = .ok (.aload_n 0, 1) := by decide +kernel
theorem d_Gp_isSealRight_13 : decode b_Gp_isSealRight 13 = .ok (.getfield 44, 3) := by decide +kernel
theorem d_Gp_isSealRight_16 : decode b_Gp_isSealRight 16 = .ok (.aload_n 1, 1) := by decide +kernel
theorem d_Gp_isSealRight_17 : decode b_Gp_isSealRight 17 = .ok (.lload_n 2, 1) := by decide +kernel
theorem d_Gp_isSealRight_18 : decode b_Gp_isSealRight 18 = .ok (.aload_n 0, 1) := by decide +kernel
theorem d_Gp_isSealRight_19 : decode b_Gp_isSealRight 19 = .ok (.getfield 28, 3) := by decide +kernel
theorem d_Gp_isSealRight_22 : decode b_Gp_isSealRight 22 = .ok (.iload 4, 2) := by decide +kernel
theorem d_Gp_isSealRight_24 : decode b_Gp_isSealRight 24 = .ok (.bipush 16, 2) := by decide +kernel
theorem d_Gp_isSealRight_26 : decode b_Gp_isSealRight 26 = .ok (.isub, 1) := by decide +kernel
theorem d_Gp_isSealRight_27 : decode b_Gp_isSealRight 27 = .ok (.invokevirtual 107, 3) := by decide +kernel
theorem d_Gp_isSealRight_30 : decode b_Gp_isSealRight 30 = .ok (.aload_n 1, 1) := by decide +kernel
theorem d_Gp_isSealRight_31 : decode b_Gp_isSealRight 31 = .ok (.aload_n 0, 1) := by decide +kernel
theorem d_Gp_isSealRight_32 : decode b_Gp_isSealRight 32 = .ok (.getfield 44, 3) := by decide +kernel
theorem d_Gp_isSealRight_35 : decode b_Gp_isSealRight 35 = .ok (.aload_n 0, 1) := by decide +kernel
theorem d_Gp_isSealRight_36 : decode b_Gp_isSealRight 36 = .ok (.getfield 28, 3) := by decide +kernel
theorem d_Gp_isSealRight_39 : decode b_Gp_isSealRight 39 = .ok (.bipush 8, 2) := by decide +kernel
theorem d_Gp_isSealRight_41 : decode b_Gp_isSealRight 41 = .ok (.bipush 8, 2) := by decide +kernel
theorem d_Gp_isSealRight_43 : decode b_Gp_isSealRight 43 = .ok (.invokevirtual 151, 3) := by decide +kernel
theorem d_Gp_isSealRight_46 : decode b_Gp_isSealRight 46 = .ok (.invokevirtual 111, 3) := by decide +kernel
theorem d_Gp_isSealRight_49 : decode b_Gp_isSealRight 49 = .ok (.aload_n 0, 1) := by decide +kernel
theorem d_Gp_isSealRight_50 : decode b_Gp_isSealRight 50 = .ok (.getfield 44, 3) := by decide +kernel
theorem d_Gp_isSealRight_53 : decode b_Gp_isSealRight 53 = .ok (.getfield 115, 3) := by decide +kernel
theorem d_Gp_isSealRight_56 : decode b_Gp_isSealRight 56 = .ok (.aload_n 0, 1) := by decide +kernel
theorem d_Gp_isSealRight_57 : decode b_Gp_isSealRight 57 = .ok (.getfield 28, 3) := by decide +kernel
theorem d_Gp_isSealRight_60 : decode b_Gp_isSealRight 60 = .ok (.iload 4, 2) := by decide +kernel
theorem d_Gp_isSealRight_62 : decode b_Gp_isSealRight 62 = .ok (.bipush 8, 2) := by decide +kernel
theorem d_Gp_isSealRight_64 : decode b_Gp_isSealRight 64 = .ok (.invokevirtual 151, 3) := by decide +kernel
theorem d_Gp_isSealRight_67 : decode b_Gp_isSealRight 67 = .ok (.lcmp, 1) := by decide +kernel
theorem d_Gp_isSealRight_68 : decode b_Gp_isSealRight 68 = .ok (.ifCond .ne 32, 3) := by decide +kernel
theorem d_Gp_isSealRight_71 : decode b_Gp_isSealRight 71 = .ok (.aload_n 0, 1) := by decide +kernel
theorem d_Gp_isSealRight_72 : decode b_Gp_isSealRight 72 = .ok (.getfield 44, 3) := by decide +kernel
theorem d_Gp_isSealRight_75 : decode b_Gp_isSealRight 75 = .ok (.getfield 122, 3) := by decide +kernel
theorem d_Gp_isSealRight_78 : decode b_Gp_isSealRight 78 = .ok (.aload_n 0, 1) := by decide +kernel
theorem d_Gp_isSealRight_79 : decode b_Gp_isSealRight 79 = .ok (.getfield 28, 3) := by decide +kernel
theorem d_Gp_isSealRight_82 : decode b_Gp_isSealRight 82 = .ok (.iload 4, 2) := by decide +kernel
theorem d_Gp_isSealRight_84 : decode b_Gp_isSealRight 84 = .ok (.bipush 8, 2) := by decide +kernel
theorem d_Gp_isSealRight_86 : decode b_Gp_isSealRight 86 = .ok (.iadd, 1) := by decide +kernel
theorem d_Gp_isSealRight_87 : decode b_Gp_isSealRight 87 = .ok (.bipush 8, 2) := by decide +kernel
theorem d_Gp_isSealRight_89 : decode b_Gp_isSealRight 89 = .ok (.invokevirtual 151, 3) := by decide +kernel
theorem d_Gp_isSealRight_92 : decode b_Gp_isSealRight 92 = .ok (.lcmp, 1) := by decide +kernel
theorem d_Gp_isSealRight_93 : decode b_Gp_isSealRight 93 = .ok (.ifCond .ne 7, 3) := by decide +kernel
theorem d_Gp_isSealRight_96 : decode b_Gp_isSealRight 96 = .ok (.iconst 1, 1) := by decide +kernel
theorem d_Gp_isSealRight_97 : decode b_Gp_isSealRight 97 = .ok (.goto 4, 3) := by decide +kernel
theorem d_Gp_isSealRight_100 : decode b_Gp_isSealRight 100 = .ok (.iconst 0, 1) := by decide +kernel
theorem d_Gp_isSealRight_101 : decode b_Gp_isSealRight 101 = .ok (.ireturn, 1) := by decide +kernel
theorem d_Gp_unpack_0 : decode b_Gp_unpack 0 = .ok (.aload_n 0, 1) := by decide +kernel
theorem d_Gp_unpack_1 : decode b_Gp_unpack 1 = .ok (.getfield 35, 3) := by decide +kernel
theorem d_Gp_unpack_4 : decode b_Gp_unpack 4 = .ok (.invokevirtual 208, 3) := by decide +kernel
theorem d_Gp_unpack_7 : decode b_Gp_unpack 7 = .ok (.aload_n 0, 1) := by decide +kernel
theorem d_Gp_unpack_8 : decode b_Gp_unpack 8 = .ok (.getfield 35, 3) := by decide +kernel
theorem d_Gp_unpack_11 : decode b_Gp_unpack 11 = .ok (.aload_n 0, 1) := by decide +kernel
theorem d_Gp_unpack_12 : decode b_Gp_unpack 12 = .ok (.getfield 28, 3) := by decide +kernel
theorem d_Gp_unpack_15 : decode b_Gp_unpack 15 = .ok (.bipush 16, 2) := by decide +kernel
theorem d_Gp_unpack_17 : decode b_Gp_unpack 17 = .ok (.aload_n 0, 1) := by decide +kernel
theorem d_Gp_unpack_18 : decode b_Gp_unpack 18 = .ok (.getfield 28, 3) := by decide +kernel
theorem d_Gp_unpack_21 : decode b_Gp_unpack 21 = .ok (.getfield 87, 3) := by decide +kernel
theorem d_Gp_unpack_24 : decode b_Gp_unpack 24 = .ok (.bipush 16, 2) := by decide +kernel
theorem d_Gp_unpack_26 : decode b_Gp_unpack 26 = .ok (.isub, 1) := by decide +kernel
theorem d_Gp_unpack_27 : decode b_Gp_unpack 27 = .ok (.invokevirtual 211, 3) := by decide +kernel
theorem d_Gp_unpack_30 : decode b_Gp_unpack 30 = .ok (.aload_n 1, 1) := by decide +kernel
theorem d_Gp_unpack_31 : decode b_Gp_unpack 31 = .ok (.aload_n 0, 1) := by decide +kernel
theorem d_Gp_unpack_32 : decode b_Gp_unpack 32 = .ok (.getfield 35, 3) := by decide +kernel
theorem d_Gp_unpack_35 : decode b_Gp_unpack 35 = .ok (.iconst 0, 1) := by decide +kernel
theorem d_Gp_unpack_36 : decode b_Gp_unpack 36 = .ok (.aload_n 0, 1) := by decide +kernel
theorem d_Gp_unpack_37 : decode b_Gp_unpack 37 = .ok (.getfield 28, 3) := by decide +kernel
theorem d_Gp_unpack_40 : decode b_Gp_unpack 40 = .ok (.bipush 8, 2) := by decide +kernel
theorem d_Gp_unpack_42 : decode b_Gp_unpack 42 = .ok (.bipush 8, 2) := by decide +kernel
theorem d_Gp_unpack_44 : decode b_Gp_unpack 44 = .ok (.invokevirtual 151, 3) := by decide +kernel
theorem d_Gp_unpack_47 : decode b_Gp_unpack 47 = .ok (.invokevirtual 103, 3) := by decide +kernel
theorem d_Gp_unpack_50 : decode b_Gp_unpack 50 = .ok (.aload_n 0, 1) := by decide +kernel
theorem d_Gp_unpack_51 : decode b_Gp_unpack 51 = .ok (.getfield 38, 3) := by decide +kernel
theorem d_Gp_unpack_54 : decode b_Gp_unpack 54 = .ok (.invokevirtual 208, 3) := by decide +kernel
theorem d_Gp_unpack_57 : decode b_Gp_unpack 57 = .ok (.aload_n 0, 1) := by decide +kernel
theorem d_Gp_unpack_58 : decode b_Gp_unpack 58 = .ok (.getfield 35, 3) := by decide +kernel
theorem d_Gp_unpack_61 : decode b_Gp_unpack 61 = .ok (.aload_n 0, 1) := by decide +kernel
theorem d_Gp_unpack_62 : decode b_Gp_unpack 62 = .ok (.getfield 35, 3) := by decide +kernel
theorem d_Gp_unpack_65 : decode b_Gp_unpack 65 = .ok (.getfield 87, 3) := by decide +kernel
theorem d_Gp_unpack_68 : decode b_Gp_unpack 68 = .ok (.iconst 2, 1) := by decide +kernel
theorem d_Gp_unpack_69 : decode b_Gp_unpack 69 = .ok (.isub, 1) := by decide +kernel
theorem d_Gp_unpack_70 : decode b_Gp_unpack 70 = .ok (.i2l, 1) := by decide +kernel
theorem d_Gp_unpack_71 : decode b_Gp_unpack 71 = .ok (.invokevirtual 132, 3) := by decide +kernel
theorem d_Gp_unpack_74 : decode b_Gp_unpack 74 = .ok (.istore_n 2, 1) := by decide +kernel
theorem d_Gp_unpack_75 : decode b_Gp_unpack 75 = .ok (.aload_n 0, 1) := by decide +kernel
theorem d_Gp_unpack_76 : decode b_Gp_unpack 76 = .ok (.getfield 35, 3) := by decide +kernel
theorem d_Gp_unpack_79 : decode b_Gp_unpack 79 = .ok (.aload_n 0, 1) := by decide +kernel
theorem d_Gp_unpack_80 : decode b_Gp_unpack 80 = .ok (.getfield 35, 3) := by decide +kernel
theorem d_Gp_unpack_83 : decode b_Gp_unpack 83 = .ok (.getfield 87, 3) := by decide +kernel
theorem d_Gp_unpack_86 : decode b_Gp_unpack 86 = .ok (.iconst 1, 1) := by decide +kernel
theorem d_Gp_unpack_87 : decode b_Gp_unpack 87 = .ok (.isub, 1) := by decide +kernel
theorem d_Gp_unpack_88 : decode b_Gp_unpack 88 = .ok (.i2l, 1) := by decide +kernel
theorem d_Gp_unpack_89 : decode b_Gp_unpack 89 = .ok (.invokevirtual 132, 3) := by decide +kernel
theorem d_Gp_unpack_92 : decode b_Gp_unpack 92 = .ok (.istore_n 3, 1) := by decide +kernel
theorem d_Gp_unpack_93 : decode b_Gp_unpack 93 = .ok (.aload_n 0, 1) := by decide +kernel
theorem d_Gp_unpack_94 : decode b_Gp_unpack 94 = .ok (.iload_n 2, 1) := by decide +kernel
theorem d_Gp_unpack_95 : decode b_Gp_unpack 95 = .ok (.invokevirtual 215, 3) := by decide +kernel
theorem d_Gp_unpack_98 : decode b_Gp_unpack 98 = .ok (.ifCond .ne 6, 3) := by decide +kernel
theorem d_Gp_unpack_101 : decode b_Gp_unpack 101 = .ok (.bipush (-5), 2) := by decide +kernel
theorem d_Gp_unpack_103 : decode b_Gp_unpack 103 = .ok (.ireturn, 1) := by decide +kernel
theorem d_Gp_unpack_104 : decode b_Gp_unpack 104 = .ok (.iload_n 3, 1) := by decide +kernel
theorem d_Gp_unpack_105 : decode b_Gp_unpack 105 = .ok (.bipush 59, 2) := by decide +kernel
theorem d_Gp_unpack_107 : decode b_Gp_unpack 107 = .ok (.if_icmp .ne 6, 3) := by decide +kernel
theorem d_Gp_unpack_110 : decode b_Gp_unpack 110 = .ok (.bipush (-6), 2) := by decide +kernel
theorem d_Gp_unpack_112 : decode b_Gp_unpack 112 = .ok (.ireturn, 1) := by decide +kernel
theorem d_Gp_unpack_113 : decode b_Gp_unpack 113 = .ok (.aload_n 0, 1) := by decide +kernel
theorem d_Gp_unpack_114 : decode b_Gp_unpack 114 = .ok (.getfield 38, 3) := by decide +kernel
theorem d_Gp_unpack_117 : decode b_Gp_unpack 117 = .ok (.aload_n 0, 1) := by decide +kernel
theorem d_Gp_unpack_118 : decode b_Gp_unpack 118 = .ok (.getfield 35, 3) := by decide +kernel
theorem d_Gp_unpack_121 : decode b_Gp_unpack 121 = .ok (.iconst 0, 1) := by decide +kernel
theorem d_Gp_unpack_122 : decode b_Gp_unpack 122 = .ok (.aload_n 0, 1) := by decide +kernel
theorem d_Gp_unpack_123 : decode b_Gp_unpack 123 = .ok (.getfield 35, 3) := by decide +kernel
theorem d_Gp_unpack_126 : decode b_Gp_unpack 126 = .ok (.getfield 87, 3) := by decide +kernel
theorem d_Gp_unpack_129 : decode b_Gp_unpack 129 = .ok (.iconst 2, 1) := by decide +kernel
theorem d_Gp_unpack_130 : decode b_Gp_unpack 130 = .ok (.isub, 1) := by decide +kernel
theorem d_Gp_unpack_131 : decode b_Gp_unpack 131 = .ok (.iload_n 2, 1) := by decide +kernel
theorem d_Gp_unpack_132 : decode b_Gp_unpack 132 = .ok (.isub, 1) := by decide +kernel
theorem d_Gp_unpack_133 : decode b_Gp_unpack 133 = .ok (.invokevirtual 211, 3) := by decide +kernel
theorem d_Gp_unpack_136 : decode b_Gp_unpack 136 = .ok (.iload_n 3, 1) := by decide +kernel
theorem d_Gp_unpack_137 : decode b_Gp_unpack 137 = .ok (.ireturn, 1) := by decide +kernel
theorem d_Gp_isFillRight_0 : decode b_Gp_isFillRight 0 = .ok (.aload_n 0, 1) := by decide +kernel
theorem d_Gp_isFillRight_1 : decode b_Gp_isFillRight 1 = .ok (.getfield 35, 3) := by decide +kernel
theorem d_Gp_isFillRight_4 : decode b_Gp_isFillRight 4 = .ok (.getfield 87, 3) := by decide +kernel
theorem d_Gp_isFillRight_7 : decode b_Gp_isFillRight 7 = .ok (.iconst 2, 1) := by decide +kernel
theorem d_Gp_isFillRight_8 : decode b_Gp_isFillRight 8 = .ok (.isub, 1) := by decide +kernel
theorem d_Gp_isFillRight_9 : decode b_Gp_isFillRight 9 = .ok (.iload_n 1, 1) := by decide +kernel
theorem d_Gp_isFillRight_10 : decode b_Gp_isFillRight 10 = .ok (.isub, 1) := by decide +kernel
theorem d_Gp_isFillRight_11 : decode b_Gp_isFillRight 11 = .ok (.istore_n 2, 1) := by decide +kernel

theorem d_Gp_init_0 : decode b_Gp_init 0 = .ok (.aload_n 0, 1) := by decide +kernel
theorem d_Gp_init_1 : decode b_Gp_init 1 = .ok (.invokespecial 1, 3) := by decide +kernel
theorem d_Gp_init_4 : decode b_Gp_init 4 = .ok (.aload_n 0, 1) := by decide +kernel
theorem d_Gp_init_5 : decode b_Gp_init 5 = .ok (.bipush 16, 2) := by decide +kernel
theorem d_Gp_init_7 : decode b_Gp_init 7 = .ok (.anewarray 9, 3) := by decide +kernel
theorem d_Gp_init_10 : decode b_Gp_init 10 = .ok (.putfield 11, 3) := by decide +kernel
theorem d_Gp_init_13 : decode b_Gp_init 13 = .ok (.aload_n 0, 1) := by decide +kernel
theorem d_Gp_init_14 : decode b_Gp_init 14 = .ok (.iconst 0, 1) := by decide +kernel
theorem d_Gp_init_15 : decode b_Gp_init 15 = .ok (.putfield 15, 3) := by decide +kernel
theorem d_Gp_init_18 : decode b_Gp_init 18 = .ok (.aload_n 0, 1) := by decide +kernel
theorem d_Gp_init_19 : decode b_Gp_init 19 = .ok (.new 19, 3) := by decide +kernel
theorem d_Gp_init_22 : decode b_Gp_init 22 = .ok (.dup, 1) := by decide +kernel
theorem d_Gp_init_23 : decode b_Gp_init 23 = .ok (.sipush 200, 3) := by decide +kernel
theorem d_Gp_init_26 : decode b_Gp_init 26 = .ok (.invokespecial 21, 3) := by decide +kernel
theorem d_Gp_init_29 : decode b_Gp_init 29 = .ok (.putfield 24, 3) := by decide +kernel
theorem d_Gp_init_32 : decode b_Gp_init 32 = .ok (.aload_n 0, 1) := by decide +kernel
theorem d_Gp_init_33 : decode b_Gp_init 33 = .ok (.new 19, 3) := by decide +kernel
theorem d_Gp_init_36 : decode b_Gp_init 36 = .ok (.dup, 1) := by decide +kernel
theorem d_Gp_init_37 : decode b_Gp_init 37 = .ok (.sipush 236, 3) := by decide +kernel
theorem d_Gp_init_40 : decode b_Gp_init 40 = .ok (.invokespecial 21, 3) := by decide +kernel
theorem d_Gp_init_43 : decode b_Gp_init 43 = .ok (.putfield 28, 3) := by decide +kernel
theorem d_Gp_init_46 : decode b_Gp_init 46 = .ok (.aload_n 0, 1) := by decide +kernel
theorem d_Gp_init_47 : decode b_Gp_init 47 = .ok (.bipush 8, 2) := by decide +kernel
theorem d_Gp_init_49 : decode b_Gp_init 49 = .ok (.anewarray 19, 3) := by decide +kernel
theorem d_Gp_init_52 : decode b_Gp_init 52 = .ok (.putfield 31, 3) := by decide +kernel
theorem d_Gp_init_55 : decode b_Gp_init 55 = .ok (.aload_n 0, 1) := by decide +kernel
theorem d_Gp_init_56 : decode b_Gp_init 56 = .ok (.new 19, 3) := by decide +kernel
theorem d_Gp_init_59 : decode b_Gp_init 59 = .ok (.dup, 1) := by decide +kernel
theorem d_Gp_init_60 : decode b_Gp_init 60 = .ok (.sipush 204, 3) := by decide +kernel
theorem d_Gp_init_63 : decode b_Gp_init 63 = .ok (.invokespecial 21, 3) := by decide +kernel
theorem d_Gp_init_66 : decode b_Gp_init 66 = .ok (.putfield 35, 3) := by decide +kernel
theorem d_Gp_init_69 : decode b_Gp_init 69 = .ok (.aload_n 0, 1) := by decide +kernel
theorem d_Gp_init_70 : decode b_Gp_init 70 = .ok (.new 19, 3) := by decide +kernel
theorem d_Gp_init_73 : decode b_Gp_init 73 = .ok (.dup, 1) := by decide +kernel
theorem d_Gp_init_74 : decode b_Gp_init 74 = .ok (.sipush 204, 3) := by decide +kernel
theorem d_Gp_init_77 : decode b_Gp_init 77 = .ok (.invokespecial 21, 3) := by decide +kernel
theorem d_Gp_init_80 : decode b_Gp_init 80 = .ok (.putfield 38, 3) := by decide +kernel
theorem d_Gp_init_83 : decode b_Gp_init 83 = .ok (.aload_n 0, 1) := by decide +kernel
theorem d_Gp_init_84 : decode b_Gp_init 84 = .ok (.new 41, 3) := by decide +kernel
theorem d_Gp_init_87 : decode b_Gp_init 87 = .ok (.dup, 1) := by decide +kernel
theorem d_Gp_init_88 : decode b_Gp_init 88 = .ok (.invokespecial 43, 3) := by decide +kernel
theorem d_Gp_init_91 : decode b_Gp_init 91 = .ok (.putfield 44, 3) := by decide +kernel
theorem d_Gp_init_94 : decode b_Gp_init 94 = .ok (.iconst 0, 1) := by decide +kernel
theorem d_Gp_init_95 : decode b_Gp_init 95 = .ok (.istore_n 1, 1) := by decide +kernel
theorem d_Gp_init_96 : decode b_Gp_init 96 = .ok (.iload_n 1, 1) := by decide +kernel
theorem d_Gp_init_97 : decode b_Gp_init 97 = .ok (.bipush 16, 2) := by decide +kernel
theorem d_Gp_init_99 : decode b_Gp_init 99 = .ok (.if_icmp .ge 22, 3) := by decide +kernel
theorem d_Gp_init_102 : decode b_Gp_init 102 = .ok (.aload_n 0, 1) := by decide +kernel
theorem d_Gp_init_103 : decode b_Gp_init 103 = .ok (.getfield 11, 3) := by decide +kernel
theorem d_Gp_init_106 : decode b_Gp_init 106 = .ok (.iload_n 1, 1) := by decide +kernel
theorem d_Gp_init_107 : decode b_Gp_init 107 = .ok (.new 9, 3) := by decide +kernel
theorem d_Gp_init_110 : decode b_Gp_init 110 = .ok (.dup, 1) := by decide +kernel
theorem d_Gp_init_111 : decode b_Gp_init 111 = .ok (.invokespecial 48, 3) := by decide +kernel
theorem d_Gp_init_114 : decode b_Gp_init 114 = .ok (.aastore, 1) := by decide +kernel
theorem d_Gp_init_115 : decode b_Gp_init 115 = .ok (.iinc 1 1, 3) := by decide +kernel
theorem d_Gp_init_118 : decode b_Gp_init 118 = .ok (.goto (-22), 3) := by decide +kernel
theorem d_Gp_init_121 : decode b_Gp_init 121 = .ok (.iconst 0, 1) := by decide +kernel
theorem d_Gp_init_122 : decode b_Gp_init 122 = .ok (.istore_n 1, 1) := by decide +kernel
theorem d_Gp_init_123 : decode b_Gp_init 123 = .ok (.iload_n 1, 1) := by decide +kernel
theorem d_Gp_init_124 : decode b_Gp_init 124 = .ok (.bipush 8, 2) := by decide +kernel
theorem d_Gp_init_126 : decode b_Gp_init 126 = .ok (.if_icmp .ge 25, 3) := by decide +kernel
theorem d_Gp_init_129 : decode b_Gp_init 129 = .ok (.aload_n 0, 1) := by decide +kernel
theorem d_Gp_init_130 : decode b_Gp_init 130 = .ok (.getfield 31, 3) := by decide +kernel
theorem d_Gp_init_133 : decode b_Gp_init 133 = .ok (.iload_n 1, 1) := by decide +kernel
theorem d_Gp_init_134 : decode b_Gp_init 134 = .ok (.new 19, 3) := by decide +kernel
theorem d_Gp_init_137 : decode b_Gp_init 137 = .ok (.dup, 1) := by decide +kernel
theorem d_Gp_init_138 : decode b_Gp_init 138 = .ok (.sipush 236, 3) := by decide +kernel
theorem d_Gp_init_141 : decode b_Gp_init 141 = .ok (.invokespecial 21, 3) := by decide +kernel
theorem d_Gp_init_144 : decode b_Gp_init 144 = .ok (.aastore, 1) := by decide +kernel
theorem d_Gp_init_145 : decode b_Gp_init 145 = .ok (.iinc 1 1, 3) := by decide +kernel
theorem d_Gp_init_148 : decode b_Gp_init 148 = .ok (.goto (-25), 3) := by decide +kernel
theorem d_Gp_init_151 : decode b_Gp_init 151 = .ok (.return_, 1) := by decide +kernel
theorem d_Gp_add_0 : decode b_Gp_add 0 = .ok (.iload_n 1, 1) := by decide +kernel
theorem d_Gp_add_1 : decode b_Gp_add 1 = .ok (.sipush 256, 3) := by decide +kernel
theorem d_Gp_add_4 : decode b_Gp_add 4 = .ok (.if_icmp .lt 11, 3) := by decide +kernel
theorem d_Gp_add_7 : decode b_Gp_add 7 = .ok (.iload 7, 2) := by decide +kernel
theorem d_Gp_add_9 : decode b_Gp_add 9 = .ok (.invokestatic 49, 3) := by decide +kernel
theorem d_Gp_add_12 : decode b_Gp_add 12 = .ok (.ifCond .ne 11, 3) := by decide +kernel
theorem d_Gp_add_15 : decode b_Gp_add 15 = .ok (.new 53, 3) := by decide +kernel
theorem d_Gp_add_18 : decode b_Gp_add 18 = .ok (.dup, 1) := by decide +kernel
theorem d_Gp_add_19 : decode b_Gp_add 19 = .ok (.invokespecial 55, 3) := by decide +kernel
theorem d_Gp_add_22 : decode b_Gp_add 22 = .ok (.athrow, 1) := by decide +kernel
theorem d_Gp_add_23 : decode b_Gp_add 23 = .ok (.aload_n 0, 1) := by decide +kernel
theorem d_Gp_add_24 : decode b_Gp_add 24 = .ok (.iload_n 1, 1) := by decide +kernel
theorem d_Gp_add_25 : decode b_Gp_add 25 = .ok (.invokevirtual 56, 3) := by decide +kernel
theorem d_Gp_add_28 : decode b_Gp_add 28 = .ok (.istore 9, 2) := by decide +kernel
theorem d_Gp_add_30 : decode b_Gp_add 30 = .ok (.aload_n 0, 1) := by decide +kernel
theorem d_Gp_add_31 : decode b_Gp_add 31 = .ok (.getfield 15, 3) := by decide +kernel
theorem d_Gp_add_34 : decode b_Gp_add 34 = .ok (.bipush 16, 2) := by decide +kernel
theorem d_Gp_add_36 : decode b_Gp_add 36 = .ok (.if_icmp .ge 13, 3) := by decide +kernel
theorem d_Gp_add_39 : decode b_Gp_add 39 = .ok (.aload_n 0, 1) := by decide +kernel
theorem d_Gp_add_40 : decode b_Gp_add 40 = .ok (.iload 9, 2) := by decide +kernel
theorem d_Gp_add_42 : decode b_Gp_add 42 = .ok (.iload_n 1, 1) := by decide +kernel
theorem d_Gp_add_43 : decode b_Gp_add 43 = .ok (.invokevirtual 60, 3) := by decide +kernel
theorem d_Gp_add_46 : decode b_Gp_add 46 = .ok (.ifCond .eq 5, 3) := by decide +kernel
theorem d_Gp_add_49 : decode b_Gp_add 49 = .ok (.iconst 0, 1) := by decide +kernel
theorem d_Gp_add_50 : decode b_Gp_add 50 = .ok (.ireturn, 1) := by decide +kernel
theorem d_Gp_add_51 : decode b_Gp_add 51 = .ok (.aload_n 0, 1) := by decide +kernel
theorem d_Gp_add_52 : decode b_Gp_add 52 = .ok (.getfield 11, 3) := by decide +kernel
theorem d_Gp_add_55 : decode b_Gp_add 55 = .ok (.aload_n 0, 1) := by decide +kernel
theorem d_Gp_add_56 : decode b_Gp_add 56 = .ok (.getfield 15, 3) := by decide +kernel
theorem d_Gp_add_59 : decode b_Gp_add 59 = .ok (.aaload, 1) := by decide +kernel
theorem d_Gp_add_60 : decode b_Gp_add 60 = .ok (.astore 10, 2) := by decide +kernel
theorem d_Gp_add_62 : decode b_Gp_add 62 = .ok (.aload_n 0, 1) := by decide +kernel
theorem d_Gp_add_63 : decode b_Gp_add 63 = .ok (.getfield 15, 3) := by decide +kernel
theorem d_Gp_add_66 : decode b_Gp_add 66 = .ok (.istore 11, 2) := by decide +kernel
theorem d_Gp_add_68 : decode b_Gp_add 68 = .ok (.iload 11, 2) := by decide +kernel
theorem d_Gp_add_70 : decode b_Gp_add 70 = .ok (.iload 9, 2) := by decide +kernel
theorem d_Gp_add_72 : decode b_Gp_add 72 = .ok (.if_icmp .le 25, 3) := by decide +kernel
theorem d_Gp_add_75 : decode b_Gp_add 75 = .ok (.aload_n 0, 1) := by decide +kernel
theorem d_Gp_add_76 : decode b_Gp_add 76 = .ok (.getfield 11, 3) := by decide +kernel
theorem d_Gp_add_79 : decode b_Gp_add 79 = .ok (.iload 11, 2) := by decide +kernel
theorem d_Gp_add_81 : decode b_Gp_add 81 = .ok (.aload_n 0, 1) := by decide +kernel
theorem d_Gp_add_82 : decode b_Gp_add 82 = .ok (.getfield 11, 3) := by decide +kernel
theorem d_Gp_add_85 : decode b_Gp_add 85 = .ok (.iload 11, 2) := by decide +kernel
theorem d_Gp_add_87 : decode b_Gp_add 87 = .ok (.iconst 1, 1) := by decide +kernel
theorem d_Gp_add_88 : decode b_Gp_add 88 = .ok (.isub, 1) := by decide +kernel
theorem d_Gp_add_89 : decode b_Gp_add 89 = .ok (.aaload, 1) := by decide +kernel
theorem d_Gp_add_90 : decode b_Gp_add 90 = .ok (.aastore, 1) := by decide +kernel
theorem d_Gp_add_91 : decode b_Gp_add 91 = .ok (.iinc 11 (-1), 3) := by decide +kernel
theorem d_Gp_add_94 : decode b_Gp_add 94 = .ok (.goto (-26), 3) := by decide +kernel
theorem d_Gp_add_97 : decode b_Gp_add 97 = .ok (.aload_n 0, 1) := by decide +kernel
theorem d_Gp_add_98 : decode b_Gp_add 98 = .ok (.getfield 11, 3) := by decide +kernel
theorem d_Gp_add_101 : decode b_Gp_add 101 = .ok (.iload 9, 2) := by decide +kernel
theorem d_Gp_add_103 : decode b_Gp_add 103 = .ok (.aload 10, 2) := by decide +kernel
theorem d_Gp_add_105 : decode b_Gp_add 105 = .ok (.aastore, 1) := by decide +kernel
theorem d_Gp_add_106 : decode b_Gp_add 106 = .ok (.aload_n 0, 1) := by decide +kernel
theorem d_Gp_add_107 : decode b_Gp_add 107 = .ok (.dup, 1) := by decide +kernel
theorem d_Gp_add_108 : decode b_Gp_add 108 = .ok (.getfield 15, 3) := by decide +kernel
theorem d_Gp_add_111 : decode b_Gp_add 111 = .ok (.iconst 1, 1) := by decide +kernel
theorem d_Gp_add_112 : decode b_Gp_add 112 = .ok (.iadd, 1) := by decide +kernel
theorem d_Gp_add_113 : decode b_Gp_add 113 = .ok (.putfield 15, 3) := by decide +kernel
theorem d_Gp_add_116 : decode b_Gp_add 116 = .ok (.aload 10, 2) := by decide +kernel
theorem d_Gp_add_118 : decode b_Gp_add 118 = .ok (.iload_n 1, 1) := by decide +kernel
theorem d_Gp_add_119 : decode b_Gp_add 119 = .ok (.iload 6, 2) := by decide +kernel
theorem d_Gp_add_121 : decode b_Gp_add 121 = .ok (.iload 7, 2) := by decide +kernel
theorem d_Gp_add_123 : decode b_Gp_add 123 = .ok (.iload 8, 2) := by decide +kernel
theorem d_Gp_add_125 : decode b_Gp_add 125 = .ok (.invokevirtual 64, 3) := by decide +kernel
theorem d_Gp_add_128 : decode b_Gp_add 128 = .ok (.aload 10, 2) := by decide +kernel
theorem d_Gp_add_130 : decode b_Gp_add 130 = .ok (.lload_n 2, 1) := by decide +kernel
theorem d_Gp_add_131 : decode b_Gp_add 131 = .ok (.lload 4, 2) := by decide +kernel
theorem d_Gp_add_133 : decode b_Gp_add 133 = .ok (.invokevirtual 68, 3) := by decide +kernel
theorem d_Gp_add_136 : decode b_Gp_add 136 = .ok (.iconst 1, 1) := by decide +kernel
theorem d_Gp_add_137 : decode b_Gp_add 137 = .ok (.ireturn, 1) := by decide +kernel
theorem d_Gp_drop_0 : decode b_Gp_drop 0 = .ok (.aload_n 0, 1) := by decide +kernel
theorem d_Gp_drop_1 : decode b_Gp_drop 1 = .ok (.iload_n 1, 1) := by decide +kernel
theorem d_Gp_drop_2 : decode b_Gp_drop 2 = .ok (.invokevirtual 56, 3) := by decide +kernel
theorem d_Gp_drop_5 : decode b_Gp_drop 5 = .ok (.istore_n 2, 1) := by decide +kernel
theorem d_Gp_drop_6 : decode b_Gp_drop 6 = .ok (.aload_n 0, 1) := by decide +kernel
theorem d_Gp_drop_7 : decode b_Gp_drop 7 = .ok (.iload_n 2, 1) := by decide +kernel
theorem d_Gp_drop_8 : decode b_Gp_drop 8 = .ok (.iload_n 1, 1) := by decide +kernel
theorem d_Gp_drop_9 : decode b_Gp_drop 9 = .ok (.invokevirtual 60, 3) := by decide +kernel
theorem d_Gp_drop_12 : decode b_Gp_drop 12 = .ok (.ifCond .ne 5, 3) := by decide +kernel
theorem d_Gp_drop_15 : decode b_Gp_drop 15 = .ok (.iconst 0, 1) := by decide +kernel
theorem d_Gp_drop_16 : decode b_Gp_drop 16 = .ok (.ireturn, 1) := by decide +kernel
theorem d_Gp_drop_17 : decode b_Gp_drop 17 = .ok (.aload_n 0, 1) := by decide +kernel
theorem d_Gp_drop_18 : decode b_Gp_drop 18 = .ok (.getfield 11, 3) := by decide +kernel
theorem d_Gp_drop_21 : decode b_Gp_drop 21 = .ok (.iload_n 2, 1) := by decide +kernel
theorem d_Gp_drop_22 : decode b_Gp_drop 22 = .ok (.aaload, 1) := by decide +kernel
theorem d_Gp_drop_23 : decode b_Gp_drop 23 = .ok (.astore_n 3, 1) := by decide +kernel
theorem d_Gp_drop_24 : decode b_Gp_drop 24 = .ok (.aload_n 0, 1) := by decide +kernel
theorem d_Gp_drop_25 : decode b_Gp_drop 25 = .ok (.dup, 1) := by decide +kernel
theorem d_Gp_drop_26 : decode b_Gp_drop 26 = .ok (.getfield 15, 3) := by decide +kernel
theorem d_Gp_drop_29 : decode b_Gp_drop 29 = .ok (.iconst 1, 1) := by decide +kernel
theorem d_Gp_drop_30 : decode b_Gp_drop 30 = .ok (.isub, 1) := by decide +kernel
theorem d_Gp_drop_31 : decode b_Gp_drop 31 = .ok (.putfield 15, 3) := by decide +kernel
theorem d_Gp_drop_34 : decode b_Gp_drop 34 = .ok (.iload_n 2, 1) := by decide +kernel
theorem d_Gp_drop_35 : decode b_Gp_drop 35 = .ok (.istore 4, 2) := by decide +kernel
theorem d_Gp_drop_37 : decode b_Gp_drop 37 = .ok (.iload 4, 2) := by decide +kernel
theorem d_Gp_drop_39 : decode b_Gp_drop 39 = .ok (.aload_n 0, 1) := by decide +kernel
theorem d_Gp_drop_40 : decode b_Gp_drop 40 = .ok (.getfield 15, 3) := by decide +kernel
theorem d_Gp_drop_43 : decode b_Gp_drop 43 = .ok (.if_icmp .ge 25, 3) := by decide +kernel
theorem d_Gp_drop_46 : decode b_Gp_drop 46 = .ok (.aload_n 0, 1) := by decide +kernel
theorem d_Gp_drop_47 : decode b_Gp_drop 47 = .ok (.getfield 11, 3) := by decide +kernel
theorem d_Gp_drop_50 : decode b_Gp_drop 50 = .ok (.iload 4, 2) := by decide +kernel
theorem d_Gp_drop_52 : decode b_Gp_drop 52 = .ok (.aload_n 0, 1) := by decide +kernel
theorem d_Gp_drop_53 : decode b_Gp_drop 53 = .ok (.getfield 11, 3) := by decide +kernel
theorem d_Gp_drop_56 : decode b_Gp_drop 56 = .ok (.iload 4, 2) := by decide +kernel
theorem d_Gp_drop_58 : decode b_Gp_drop 58 = .ok (.iconst 1, 1) := by decide +kernel
theorem d_Gp_drop_59 : decode b_Gp_drop 59 = .ok (.iadd, 1) := by decide +kernel
theorem d_Gp_drop_60 : decode b_Gp_drop 60 = .ok (.aaload, 1) := by decide +kernel
theorem d_Gp_drop_61 : decode b_Gp_drop 61 = .ok (.aastore, 1) := by decide +kernel
theorem d_Gp_drop_62 : decode b_Gp_drop 62 = .ok (.iinc 4 1, 3) := by decide +kernel
theorem d_Gp_drop_65 : decode b_Gp_drop 65 = .ok (.goto (-28), 3) := by decide +kernel
theorem d_Gp_drop_68 : decode b_Gp_drop 68 = .ok (.aload_n 0, 1) := by decide +kernel
theorem d_Gp_drop_69 : decode b_Gp_drop 69 = .ok (.getfield 11, 3) := by decide +kernel
theorem d_Gp_drop_72 : decode b_Gp_drop 72 = .ok (.aload_n 0, 1) := by decide +kernel
theorem d_Gp_drop_73 : decode b_Gp_drop 73 = .ok (.getfield 15, 3) := by decide +kernel
theorem d_Gp_drop_76 : decode b_Gp_drop 76 = .ok (.aload_n 3, 1) := by decide +kernel
theorem d_Gp_drop_77 : decode b_Gp_drop 77 = .ok (.aastore, 1) := by decide +kernel
theorem d_Gp_drop_78 : decode b_Gp_drop 78 = .ok (.iconst 1, 1) := by decide +kernel
theorem d_Gp_drop_79 : decode b_Gp_drop 79 = .ok (.ireturn, 1) := by decide +kernel
theorem d_Gp_hurry_0 : decode b_Gp_hurry 0 = .ok (.aload_n 0, 1) := by decide +kernel
theorem d_Gp_hurry_1 : decode b_Gp_hurry 1 = .ok (.iload_n 1, 1) := by decide +kernel
theorem d_Gp_hurry_2 : decode b_Gp_hurry 2 = .ok (.invokevirtual 72, 3) := by decide +kernel
theorem d_Gp_hurry_5 : decode b_Gp_hurry 5 = .ok (.astore 4, 2) := by decide +kernel
theorem d_Gp_hurry_7 : decode b_Gp_hurry 7 = .ok (.lload_n 2, 1) := by decide +kernel
theorem d_Gp_hurry_8 : decode b_Gp_hurry 8 = .ok (.aload 4, 2) := by decide +kernel
theorem d_Gp_hurry_10 : decode b_Gp_hurry 10 = .ok (.getfield 76, 3) := by decide +kernel
theorem d_Gp_hurry_13 : decode b_Gp_hurry 13 = .ok (.lcmp, 1) := by decide +kernel
theorem d_Gp_hurry_14 : decode b_Gp_hurry 14 = .ok (.ifCond .lt 13, 3) := by decide +kernel
theorem d_Gp_hurry_17 : decode b_Gp_hurry 17 = .ok (.lload_n 2, 1) := by decide +kernel
theorem d_Gp_hurry_18 : decode b_Gp_hurry 18 = .ok (.aload 4, 2) := by decide +kernel
theorem d_Gp_hurry_20 : decode b_Gp_hurry 20 = .ok (.invokevirtual 80, 3) := by decide +kernel
theorem d_Gp_hurry_23 : decode b_Gp_hurry 23 = .ok (.lcmp, 1) := by decide +kernel
theorem d_Gp_hurry_24 : decode b_Gp_hurry 24 = .ok (.ifCond .le 11, 3) := by decide +kernel
theorem d_Gp_hurry_27 : decode b_Gp_hurry 27 = .ok (.new 53, 3) := by decide +kernel
theorem d_Gp_hurry_30 : decode b_Gp_hurry 30 = .ok (.dup, 1) := by decide +kernel
theorem d_Gp_hurry_31 : decode b_Gp_hurry 31 = .ok (.invokespecial 55, 3) := by decide +kernel
theorem d_Gp_hurry_34 : decode b_Gp_hurry 34 = .ok (.athrow, 1) := by decide +kernel
theorem d_Gp_hurry_35 : decode b_Gp_hurry 35 = .ok (.aload 4, 2) := by decide +kernel
theorem d_Gp_hurry_37 : decode b_Gp_hurry 37 = .ok (.lload_n 2, 1) := by decide +kernel
theorem d_Gp_hurry_38 : decode b_Gp_hurry 38 = .ok (.putfield 76, 3) := by decide +kernel
theorem d_Gp_hurry_41 : decode b_Gp_hurry 41 = .ok (.return_, 1) := by decide +kernel
theorem d_Gp_life_0 : decode b_Gp_life 0 = .ok (.aload_n 0, 1) := by decide +kernel
theorem d_Gp_life_1 : decode b_Gp_life 1 = .ok (.iload_n 1, 1) := by decide +kernel
theorem d_Gp_life_2 : decode b_Gp_life 2 = .ok (.invokevirtual 72, 3) := by decide +kernel
theorem d_Gp_life_5 : decode b_Gp_life 5 = .ok (.astore_n 3, 1) := by decide +kernel
theorem d_Gp_life_6 : decode b_Gp_life 6 = .ok (.iload_n 2, 1) := by decide +kernel
theorem d_Gp_life_7 : decode b_Gp_life 7 = .ok (.ifCond .ge 11, 3) := by decide +kernel
theorem d_Gp_life_10 : decode b_Gp_life 10 = .ok (.new 53, 3) := by decide +kernel
theorem d_Gp_life_13 : decode b_Gp_life 13 = .ok (.dup, 1) := by decide +kernel
theorem d_Gp_life_14 : decode b_Gp_life 14 = .ok (.invokespecial 55, 3) := by decide +kernel
theorem d_Gp_life_17 : decode b_Gp_life 17 = .ok (.athrow, 1) := by decide +kernel
theorem d_Gp_life_18 : decode b_Gp_life 18 = .ok (.aload_n 3, 1) := by decide +kernel
theorem d_Gp_life_19 : decode b_Gp_life 19 = .ok (.getfield 84, 3) := by decide +kernel
theorem d_Gp_life_22 : decode b_Gp_life 22 = .ok (.istore 4, 2) := by decide +kernel
theorem d_Gp_life_24 : decode b_Gp_life 24 = .ok (.aload_n 3, 1) := by decide +kernel
theorem d_Gp_life_25 : decode b_Gp_life 25 = .ok (.iload_n 2, 1) := by decide +kernel
theorem d_Gp_life_26 : decode b_Gp_life 26 = .ok (.putfield 84, 3) := by decide +kernel
theorem d_Gp_life_29 : decode b_Gp_life 29 = .ok (.iload 4, 2) := by decide +kernel
theorem d_Gp_life_31 : decode b_Gp_life 31 = .ok (.ireturn, 1) := by decide +kernel
theorem d_Gp_feed_0 : decode b_Gp_feed 0 = .ok (.iload_n 1, 1) := by decide +kernel
theorem d_Gp_feed_1 : decode b_Gp_feed 1 = .ok (.iconst 1, 1) := by decide +kernel
theorem d_Gp_feed_2 : decode b_Gp_feed 2 = .ok (.if_icmp .lt 9, 3) := by decide +kernel
theorem d_Gp_feed_5 : decode b_Gp_feed 5 = .ok (.iload_n 1, 1) := by decide +kernel
theorem d_Gp_feed_6 : decode b_Gp_feed 6 = .ok (.bipush 8, 2) := by decide +kernel
theorem d_Gp_feed_8 : decode b_Gp_feed 8 = .ok (.if_icmp .le 11, 3) := by decide +kernel
theorem d_Gp_feed_11 : decode b_Gp_feed 11 = .ok (.new 53, 3) := by decide +kernel
theorem d_Gp_feed_14 : decode b_Gp_feed 14 = .ok (.dup, 1) := by decide +kernel
theorem d_Gp_feed_15 : decode b_Gp_feed 15 = .ok (.invokespecial 55, 3) := by decide +kernel
theorem d_Gp_feed_18 : decode b_Gp_feed 18 = .ok (.athrow, 1) := by decide +kernel
theorem d_Gp_feed_19 : decode b_Gp_feed 19 = .ok (.aload_n 0, 1) := by decide +kernel
theorem d_Gp_feed_20 : decode b_Gp_feed 20 = .ok (.getfield 24, 3) := by decide +kernel
theorem d_Gp_feed_23 : decode b_Gp_feed 23 = .ok (.getfield 87, 3) := by decide +kernel
theorem d_Gp_feed_26 : decode b_Gp_feed 26 = .ok (.iload_n 1, 1) := by decide +kernel
theorem d_Gp_feed_27 : decode b_Gp_feed 27 = .ok (.iadd, 1) := by decide +kernel
theorem d_Gp_feed_28 : decode b_Gp_feed 28 = .ok (.sipush 200, 3) := by decide +kernel
theorem d_Gp_feed_31 : decode b_Gp_feed 31 = .ok (.if_icmp .le 5, 3) := by decide +kernel
theorem d_Gp_feed_34 : decode b_Gp_feed 34 = .ok (.iconst (-1), 1) := by decide +kernel
theorem d_Gp_feed_35 : decode b_Gp_feed 35 = .ok (.ireturn, 1) := by decide +kernel
theorem d_Gp_feed_36 : decode b_Gp_feed 36 = .ok (.iconst 0, 1) := by decide +kernel
theorem d_Gp_feed_37 : decode b_Gp_feed 37 = .ok (.istore 4, 2) := by decide +kernel
theorem d_Gp_feed_39 : decode b_Gp_feed 39 = .ok (.iload 4, 2) := by decide +kernel
theorem d_Gp_feed_41 : decode b_Gp_feed 41 = .ok (.iload_n 1, 1) := by decide +kernel
theorem d_Gp_feed_42 : decode b_Gp_feed 42 = .ok (.if_icmp .ge 24, 3) := by decide +kernel
theorem d_Gp_feed_45 : decode b_Gp_feed 45 = .ok (.aload_n 0, 1) := by decide +kernel
theorem d_Gp_feed_46 : decode b_Gp_feed 46 = .ok (.getfield 24, 3) := by decide +kernel
theorem d_Gp_feed_49 : decode b_Gp_feed 49 = .ok (.lload_n 2, 1) := by decide +kernel
theorem d_Gp_feed_50 : decode b_Gp_feed 50 = .ok (.bipush 8, 2) := by decide +kernel
theorem d_Gp_feed_52 : decode b_Gp_feed 52 = .ok (.iload 4, 2) := by decide +kernel
theorem d_Gp_feed_54 : decode b_Gp_feed 54 = .ok (.imul, 1) := by decide +kernel
theorem d_Gp_feed_55 : decode b_Gp_feed 55 = .ok (.lushr, 1) := by decide +kernel
theorem d_Gp_feed_56 : decode b_Gp_feed 56 = .ok (.l2i, 1) := by decide +kernel
theorem d_Gp_feed_57 : decode b_Gp_feed 57 = .ok (.invokevirtual 90, 3) := by decide +kernel
theorem d_Gp_feed_60 : decode b_Gp_feed 60 = .ok (.iinc 4 1, 3) := by decide +kernel
theorem d_Gp_feed_63 : decode b_Gp_feed 63 = .ok (.goto (-24), 3) := by decide +kernel
theorem d_Gp_feed_66 : decode b_Gp_feed 66 = .ok (.aload_n 0, 1) := by decide +kernel
theorem d_Gp_feed_67 : decode b_Gp_feed 67 = .ok (.getfield 24, 3) := by decide +kernel
theorem d_Gp_feed_70 : decode b_Gp_feed 70 = .ok (.getfield 87, 3) := by decide +kernel
theorem d_Gp_feed_73 : decode b_Gp_feed 73 = .ok (.ireturn, 1) := by decide +kernel
theorem d_Gp_wipe_0 : decode b_Gp_wipe 0 = .ok (.aload_n 0, 1) := by decide +kernel
theorem d_Gp_wipe_1 : decode b_Gp_wipe 1 = .ok (.getfield 24, 3) := by decide +kernel
theorem d_Gp_wipe_4 : decode b_Gp_wipe 4 = .ok (.getfield 87, 3) := by decide +kernel
theorem d_Gp_wipe_7 : decode b_Gp_wipe 7 = .ok (.istore_n 1, 1) := by decide +kernel
theorem d_Gp_wipe_8 : decode b_Gp_wipe 8 = .ok (.aload_n 0, 1) := by decide +kernel
theorem d_Gp_wipe_9 : decode b_Gp_wipe 9 = .ok (.getfield 24, 3) := by decide +kernel
theorem d_Gp_wipe_12 : decode b_Gp_wipe 12 = .ok (.iconst 0, 1) := by decide +kernel
theorem d_Gp_wipe_13 : decode b_Gp_wipe 13 = .ok (.invokevirtual 93, 3) := by decide +kernel
theorem d_Gp_wipe_16 : decode b_Gp_wipe 16 = .ok (.iload_n 1, 1) := by decide +kernel
theorem d_Gp_wipe_17 : decode b_Gp_wipe 17 = .ok (.ireturn, 1) := by decide +kernel
theorem d_Gp_seal_0 : decode b_Gp_seal 0 = .ok (.aload_n 0, 1) := by decide +kernel
theorem d_Gp_seal_1 : decode b_Gp_seal 1 = .ok (.iload_n 1, 1) := by decide +kernel
theorem d_Gp_seal_2 : decode b_Gp_seal 2 = .ok (.invokevirtual 72, 3) := by decide +kernel
theorem d_Gp_seal_5 : decode b_Gp_seal 5 = .ok (.astore_n 3, 1) := by decide +kernel
theorem d_Gp_seal_6 : decode b_Gp_seal 6 = .ok (.iload_n 2, 1) := by decide +kernel
theorem d_Gp_seal_7 : decode b_Gp_seal 7 = .ok (.invokestatic 96, 3) := by decide +kernel
theorem d_Gp_seal_10 : decode b_Gp_seal 10 = .ok (.ifCond .ne 11, 3) := by decide +kernel
theorem d_Gp_seal_13 : decode b_Gp_seal 13 = .ok (.new 53, 3) := by decide +kernel
theorem d_Gp_seal_16 : decode b_Gp_seal 16 = .ok (.dup, 1) := by decide +kernel
theorem d_Gp_seal_17 : decode b_Gp_seal 17 = .ok (.invokespecial 55, 3) := by decide +kernel
theorem d_Gp_seal_20 : decode b_Gp_seal 20 = .ok (.athrow, 1) := by decide +kernel
theorem d_Gp_seal_21 : decode b_Gp_seal 21 = .ok (.aload_n 3, 1) := by decide +kernel
theorem d_Gp_seal_22 : decode b_Gp_seal 22 = .ok (.getfield 76, 3) := by decide +kernel
theorem d_Gp_seal_25 : decode b_Gp_seal 25 = .ok (.aload_n 3, 1) := by decide +kernel
theorem d_Gp_seal_26 : decode b_Gp_seal 26 = .ok (.invokevirtual 80, 3) := by decide +kernel
theorem d_Gp_seal_29 : decode b_Gp_seal 29 = .ok (.lcmp, 1) := by decide +kernel
theorem d_Gp_seal_30 : decode b_Gp_seal 30 = .ok (.ifCond .ge 17, 3) := by decide +kernel
theorem d_Gp_seal_33 : decode b_Gp_seal 33 = .ok (.aload_n 0, 1) := by decide +kernel
theorem d_Gp_seal_34 : decode b_Gp_seal 34 = .ok (.getfield 24, 3) := by decide +kernel
theorem d_Gp_seal_37 : decode b_Gp_seal 37 = .ok (.getfield 87, 3) := by decide +kernel
theorem d_Gp_seal_40 : decode b_Gp_seal 40 = .ok (.aload_n 3, 1) := by decide +kernel
theorem d_Gp_seal_41 : decode b_Gp_seal 41 = .ok (.getfield 84, 3) := by decide +kernel
theorem d_Gp_seal_44 : decode b_Gp_seal 44 = .ok (.if_icmp .le 5, 3) := by decide +kernel
theorem d_Gp_seal_47 : decode b_Gp_seal 47 = .ok (.iconst (-1), 1) := by decide +kernel
theorem d_Gp_seal_48 : decode b_Gp_seal 48 = .ok (.ireturn, 1) := by decide +kernel
theorem d_Gp_seal_49 : decode b_Gp_seal 49 = .ok (.aload_n 3, 1) := by decide +kernel
theorem d_Gp_seal_50 : decode b_Gp_seal 50 = .ok (.dup, 1) := by decide +kernel
theorem d_Gp_seal_51 : decode b_Gp_seal 51 = .ok (.getfield 76, 3) := by decide +kernel
theorem d_Gp_seal_54 : decode b_Gp_seal 54 = .ok (.lconst 1, 1) := by decide +kernel
theorem d_Gp_seal_55 : decode b_Gp_seal 55 = .ok (.ladd, 1) := by decide +kernel
theorem d_Gp_seal_56 : decode b_Gp_seal 56 = .ok (.putfield 76, 3) := by decide +kernel
theorem d_Gp_seal_59 : decode b_Gp_seal 59 = .ok (.aload_n 3, 1) := by decide +kernel
theorem d_Gp_seal_60 : decode b_Gp_seal 60 = .ok (.dup, 1) := by decide +kernel
theorem d_Gp_seal_61 : decode b_Gp_seal 61 = .ok (.getfield 84, 3) := by decide +kernel
theorem d_Gp_seal_64 : decode b_Gp_seal 64 = .ok (.aload_n 0, 1) := by decide +kernel
theorem d_Gp_seal_65 : decode b_Gp_seal 65 = .ok (.getfield 24, 3) := by decide +kernel
theorem d_Gp_seal_68 : decode b_Gp_seal 68 = .ok (.getfield 87, 3) := by decide +kernel
theorem d_Gp_seal_71 : decode b_Gp_seal 71 = .ok (.isub, 1) := by decide +kernel
theorem d_Gp_seal_72 : decode b_Gp_seal 72 = .ok (.putfield 84, 3) := by decide +kernel
theorem d_Gp_seal_75 : decode b_Gp_seal 75 = .ok (.aload_n 0, 1) := by decide +kernel
theorem d_Gp_seal_76 : decode b_Gp_seal 76 = .ok (.aload_n 3, 1) := by decide +kernel
theorem d_Gp_seal_77 : decode b_Gp_seal 77 = .ok (.iload_n 2, 1) := by decide +kernel
theorem d_Gp_seal_78 : decode b_Gp_seal 78 = .ok (.invokevirtual 99, 3) := by decide +kernel
theorem d_Gp_seal_81 : decode b_Gp_seal 81 = .ok (.aload_n 0, 1) := by decide +kernel
theorem d_Gp_seal_82 : decode b_Gp_seal 82 = .ok (.getfield 28, 3) := by decide +kernel
theorem d_Gp_seal_85 : decode b_Gp_seal 85 = .ok (.getfield 87, 3) := by decide +kernel
theorem d_Gp_seal_88 : decode b_Gp_seal 88 = .ok (.bipush 16, 2) := by decide +kernel
theorem d_Gp_seal_90 : decode b_Gp_seal 90 = .ok (.isub, 1) := by decide +kernel
theorem d_Gp_seal_91 : decode b_Gp_seal 91 = .ok (.istore 4, 2) := by decide +kernel
theorem d_Gp_seal_93 : decode b_Gp_seal 93 = .ok (.aload_n 3, 1) := by decide +kernel
theorem d_Gp_seal_94 : decode b_Gp_seal 94 = .ok (.aload_n 0, 1) := by decide +kernel
theorem d_Gp_seal_95 : decode b_Gp_seal 95 = .ok (.getfield 28, 3) := by decide +kernel
theorem d_Gp_seal_98 : decode b_Gp_seal 98 = .ok (.bipush 16, 2) := by decide +kernel
theorem d_Gp_seal_100 : decode b_Gp_seal 100 = .ok (.aload_n 3, 1) := by decide +kernel
theorem d_Gp_seal_101 : decode b_Gp_seal 101 = .ok (.getfield 76, 3) := by decide +kernel
theorem d_Gp_seal_104 : decode b_Gp_seal 104 = .ok (.invokevirtual 103, 3) := by decide +kernel
theorem d_Gp_seal_107 : decode b_Gp_seal 107 = .ok (.aload_n 0, 1) := by decide +kernel
theorem d_Gp_seal_108 : decode b_Gp_seal 108 = .ok (.getfield 44, 3) := by decide +kernel
theorem d_Gp_seal_111 : decode b_Gp_seal 111 = .ok (.aload_n 3, 1) := by decide +kernel
theorem d_Gp_seal_112 : decode b_Gp_seal 112 = .ok (.aload_n 3, 1) := by decide +kernel
theorem d_Gp_seal_113 : decode b_Gp_seal 113 = .ok (.getfield 76, 3) := by decide +kernel
theorem d_Gp_seal_116 : decode b_Gp_seal 116 = .ok (.aload_n 0, 1) := by decide +kernel
theorem d_Gp_seal_117 : decode b_Gp_seal 117 = .ok (.getfield 28, 3) := by decide +kernel
theorem d_Gp_seal_120 : decode b_Gp_seal 120 = .ok (.iload 4, 2) := by decide +kernel
theorem d_Gp_seal_122 : decode b_Gp_seal 122 = .ok (.invokevirtual 107, 3) := by decide +kernel
theorem d_Gp_seal_125 : decode b_Gp_seal 125 = .ok (.aload_n 3, 1) := by decide +kernel
theorem d_Gp_seal_126 : decode b_Gp_seal 126 = .ok (.aload_n 0, 1) := by decide +kernel
theorem d_Gp_seal_127 : decode b_Gp_seal 127 = .ok (.getfield 44, 3) := by decide +kernel
theorem d_Gp_seal_130 : decode b_Gp_seal 130 = .ok (.aload_n 3, 1) := by decide +kernel
theorem d_Gp_seal_131 : decode b_Gp_seal 131 = .ok (.getfield 76, 3) := by decide +kernel
theorem d_Gp_seal_134 : decode b_Gp_seal 134 = .ok (.invokevirtual 111, 3) := by decide +kernel
theorem d_Gp_seal_137 : decode b_Gp_seal 137 = .ok (.aload_n 0, 1) := by decide +kernel
theorem d_Gp_seal_138 : decode b_Gp_seal 138 = .ok (.getfield 28, 3) := by decide +kernel
theorem d_Gp_seal_141 : decode b_Gp_seal 141 = .ok (.aload_n 0, 1) := by decide +kernel
theorem d_Gp_seal_142 : decode b_Gp_seal 142 = .ok (.getfield 44, 3) := by decide +kernel
theorem d_Gp_seal_145 : decode b_Gp_seal 145 = .ok (.getfield 115, 3) := by decide +kernel
theorem d_Gp_seal_148 : decode b_Gp_seal 148 = .ok (.bipush 8, 2) := by decide +kernel
theorem d_Gp_seal_150 : decode b_Gp_seal 150 = .ok (.invokevirtual 118, 3) := by decide +kernel
theorem d_Gp_seal_153 : decode b_Gp_seal 153 = .ok (.aload_n 0, 1) := by decide +kernel
theorem d_Gp_seal_154 : decode b_Gp_seal 154 = .ok (.getfield 28, 3) := by decide +kernel
theorem d_Gp_seal_157 : decode b_Gp_seal 157 = .ok (.aload_n 0, 1) := by decide +kernel
theorem d_Gp_seal_158 : decode b_Gp_seal 158 = .ok (.getfield 44, 3) := by decide +kernel
theorem d_Gp_seal_161 : decode b_Gp_seal 161 = .ok (.getfield 122, 3) := by decide +kernel
theorem d_Gp_seal_164 : decode b_Gp_seal 164 = .ok (.bipush 8, 2) := by decide +kernel
theorem d_Gp_seal_166 : decode b_Gp_seal 166 = .ok (.invokevirtual 118, 3) := by decide +kernel
theorem d_Gp_seal_169 : decode b_Gp_seal 169 = .ok (.aload_n 0, 1) := by decide +kernel
theorem d_Gp_seal_170 : decode b_Gp_seal 170 = .ok (.getfield 28, 3) := by decide +kernel
theorem d_Gp_seal_173 : decode b_Gp_seal 173 = .ok (.getfield 87, 3) := by decide +kernel
theorem d_Gp_seal_176 : decode b_Gp_seal 176 = .ok (.ireturn, 1) := by decide +kernel
theorem d_Gp_size_0 : decode b_Gp_size 0 = .ok (.aload_n 0, 1) := by decide +kernel
theorem d_Gp_size_1 : decode b_Gp_size 1 = .ok (.getfield 28, 3) := by decide +kernel
theorem d_Gp_size_4 : decode b_Gp_size 4 = .ok (.getfield 87, 3) := by decide +kernel
theorem d_Gp_size_7 : decode b_Gp_size 7 = .ok (.ireturn, 1) := by decide +kernel
theorem d_Gp_packet_0 : decode b_Gp_packet 0 = .ok (.aload_n 0, 1) := by decide +kernel
theorem d_Gp_packet_1 : decode b_Gp_packet 1 = .ok (.getfield 28, 3) := by decide +kernel
theorem d_Gp_packet_4 : decode b_Gp_packet 4 = .ok (.iload_n 1, 1) := by decide +kernel
theorem d_Gp_packet_5 : decode b_Gp_packet 5 = .ok (.invokevirtual 125, 3) := by decide +kernel
theorem d_Gp_packet_8 : decode b_Gp_packet 8 = .ok (.lreturn, 1) := by decide +kernel
theorem d_Gp_spoil_0 : decode b_Gp_spoil 0 = .ok (.iload_n 1, 1) := by decide +kernel
theorem d_Gp_spoil_1 : decode b_Gp_spoil 1 = .ok (.ifCond .lt 14, 3) := by decide +kernel
theorem d_Gp_spoil_4 : decode b_Gp_spoil 4 = .ok (.iload_n 1, 1) := by decide +kernel
theorem d_Gp_spoil_5 : decode b_Gp_spoil 5 = .ok (.aload_n 0, 1) := by decide +kernel
theorem d_Gp_spoil_6 : decode b_Gp_spoil 6 = .ok (.getfield 28, 3) := by decide +kernel
theorem d_Gp_spoil_9 : decode b_Gp_spoil 9 = .ok (.getfield 87, 3) := by decide +kernel
theorem d_Gp_spoil_12 : decode b_Gp_spoil 12 = .ok (.if_icmp .lt 11, 3) := by decide +kernel
theorem d_Gp_spoil_15 : decode b_Gp_spoil 15 = .ok (.new 129, 3) := by decide +kernel
theorem d_Gp_spoil_18 : decode b_Gp_spoil 18 = .ok (.dup, 1) := by decide +kernel
theorem d_Gp_spoil_19 : decode b_Gp_spoil 19 = .ok (.invokespecial 131, 3) := by decide +kernel
theorem d_Gp_spoil_22 : decode b_Gp_spoil 22 = .ok (.athrow, 1) := by decide +kernel
theorem d_Gp_spoil_23 : decode b_Gp_spoil 23 = .ok (.iload_n 2, 1) := by decide +kernel
theorem d_Gp_spoil_24 : decode b_Gp_spoil 24 = .ok (.invokestatic 96, 3) := by decide +kernel
theorem d_Gp_spoil_27 : decode b_Gp_spoil 27 = .ok (.ifCond .ne 11, 3) := by decide +kernel
theorem d_Gp_spoil_30 : decode b_Gp_spoil 30 = .ok (.new 53, 3) := by decide +kernel
theorem d_Gp_spoil_33 : decode b_Gp_spoil 33 = .ok (.dup, 1) := by decide +kernel
theorem d_Gp_spoil_34 : decode b_Gp_spoil 34 = .ok (.invokespecial 55, 3) := by decide +kernel
theorem d_Gp_spoil_37 : decode b_Gp_spoil 37 = .ok (.athrow, 1) := by decide +kernel
theorem d_Gp_spoil_38 : decode b_Gp_spoil 38 = .ok (.aload_n 0, 1) := by decide +kernel
theorem d_Gp_spoil_39 : decode b_Gp_spoil 39 = .ok (.getfield 28, 3) := by decide +kernel
theorem d_Gp_spoil_42 : decode b_Gp_spoil 42 = .ok (.iload_n 1, 1) := by decide +kernel
theorem d_Gp_spoil_43 : decode b_Gp_spoil 43 = .ok (.i2l, 1) := by decide +kernel
theorem d_Gp_spoil_44 : decode b_Gp_spoil 44 = .ok (.invokevirtual 132, 3) := by decide +kernel
theorem d_Gp_spoil_47 : decode b_Gp_spoil 47 = .ok (.istore_n 3, 1) := by decide +kernel
theorem d_Gp_spoil_48 : decode b_Gp_spoil 48 = .ok (.aload_n 0, 1) := by decide +kernel
theorem d_Gp_spoil_49 : decode b_Gp_spoil 49 = .ok (.getfield 28, 3) := by decide +kernel
theorem d_Gp_spoil_52 : decode b_Gp_spoil 52 = .ok (.iload_n 1, 1) := by decide +kernel
theorem d_Gp_spoil_53 : decode b_Gp_spoil 53 = .ok (.iload_n 2, 1) := by decide +kernel
theorem d_Gp_spoil_54 : decode b_Gp_spoil 54 = .ok (.invokevirtual 136, 3) := by decide +kernel
theorem d_Gp_spoil_57 : decode b_Gp_spoil 57 = .ok (.iload_n 3, 1) := by decide +kernel
theorem d_Gp_spoil_58 : decode b_Gp_spoil 58 = .ok (.ireturn, 1) := by decide +kernel
theorem d_Gp_cut_0 : decode b_Gp_cut 0 = .ok (.iload_n 1, 1) := by decide +kernel
theorem d_Gp_cut_1 : decode b_Gp_cut 1 = .ok (.ifCond .lt 14, 3) := by decide +kernel
theorem d_Gp_cut_4 : decode b_Gp_cut 4 = .ok (.iload_n 1, 1) := by decide +kernel
theorem d_Gp_cut_5 : decode b_Gp_cut 5 = .ok (.aload_n 0, 1) := by decide +kernel
theorem d_Gp_cut_6 : decode b_Gp_cut 6 = .ok (.getfield 28, 3) := by decide +kernel
theorem d_Gp_cut_9 : decode b_Gp_cut 9 = .ok (.getfield 87, 3) := by decide +kernel
theorem d_Gp_cut_12 : decode b_Gp_cut 12 = .ok (.if_icmp .le 11, 3) := by decide +kernel
theorem d_Gp_cut_15 : decode b_Gp_cut 15 = .ok (.new 53, 3) := by decide +kernel
theorem d_Gp_cut_18 : decode b_Gp_cut 18 = .ok (.dup, 1) := by decide +kernel
theorem d_Gp_cut_19 : decode b_Gp_cut 19 = .ok (.invokespecial 55, 3) := by decide +kernel
theorem d_Gp_cut_22 : decode b_Gp_cut 22 = .ok (.athrow, 1) := by decide +kernel
theorem d_Gp_cut_23 : decode b_Gp_cut 23 = .ok (.aload_n 0, 1) := by decide +kernel
theorem d_Gp_cut_24 : decode b_Gp_cut 24 = .ok (.getfield 28, 3) := by decide +kernel
theorem d_Gp_cut_27 : decode b_Gp_cut 27 = .ok (.iload_n 1, 1) := by decide +kernel
theorem d_Gp_cut_28 : decode b_Gp_cut 28 = .ok (.invokevirtual 93, 3) := by decide +kernel
theorem d_Gp_cut_31 : decode b_Gp_cut 31 = .ok (.return_, 1) := by decide +kernel
theorem d_Gp_keep_0 : decode b_Gp_keep 0 = .ok (.iload_n 1, 1) := by decide +kernel
theorem d_Gp_keep_1 : decode b_Gp_keep 1 = .ok (.invokestatic 140, 3) := by decide +kernel
theorem d_Gp_keep_4 : decode b_Gp_keep 4 = .ok (.ifCond .ne 11, 3) := by decide +kernel
theorem d_Gp_keep_7 : decode b_Gp_keep 7 = .ok (.new 129, 3) := by decide +kernel
theorem d_Gp_keep_10 : decode b_Gp_keep 10 = .ok (.dup, 1) := by decide +kernel
theorem d_Gp_keep_11 : decode b_Gp_keep 11 = .ok (.invokespecial 131, 3) := by decide +kernel
theorem d_Gp_keep_14 : decode b_Gp_keep 14 = .ok (.athrow, 1) := by decide +kernel
theorem d_Gp_keep_15 : decode b_Gp_keep 15 = .ok (.aload_n 0, 1) := by decide +kernel
theorem d_Gp_keep_16 : decode b_Gp_keep 16 = .ok (.getfield 31, 3) := by decide +kernel
theorem d_Gp_keep_19 : decode b_Gp_keep 19 = .ok (.iload_n 1, 1) := by decide +kernel
theorem d_Gp_keep_20 : decode b_Gp_keep 20 = .ok (.aaload, 1) := by decide +kernel
theorem d_Gp_keep_21 : decode b_Gp_keep 21 = .ok (.aload_n 0, 1) := by decide +kernel
theorem d_Gp_keep_22 : decode b_Gp_keep 22 = .ok (.getfield 28, 3) := by decide +kernel
theorem d_Gp_keep_25 : decode b_Gp_keep 25 = .ok (.invokevirtual 143, 3) := by decide +kernel
theorem d_Gp_keep_28 : decode b_Gp_keep 28 = .ok (.return_, 1) := by decide +kernel
theorem d_Gp_bring_0 : decode b_Gp_bring 0 = .ok (.iload_n 1, 1) := by decide +kernel
theorem d_Gp_bring_1 : decode b_Gp_bring 1 = .ok (.invokestatic 140, 3) := by decide +kernel
theorem d_Gp_bring_4 : decode b_Gp_bring 4 = .ok (.ifCond .ne 11, 3) := by decide +kernel
theorem d_Gp_bring_7 : decode b_Gp_bring 7 = .ok (.new 129, 3) := by decide +kernel
theorem d_Gp_bring_10 : decode b_Gp_bring 10 = .ok (.dup, 1) := by decide +kernel
theorem d_Gp_bring_11 : decode b_Gp_bring 11 = .ok (.invokespecial 131, 3) := by decide +kernel
theorem d_Gp_bring_14 : decode b_Gp_bring 14 = .ok (.athrow, 1) := by decide +kernel
theorem d_Gp_bring_15 : decode b_Gp_bring 15 = .ok (.aload_n 0, 1) := by decide +kernel
theorem d_Gp_bring_16 : decode b_Gp_bring 16 = .ok (.getfield 31, 3) := by decide +kernel

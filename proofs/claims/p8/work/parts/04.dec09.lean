theorem d_Ch_take_70 : decode b_Ch_take 70 = .ok (.lload 8, 2) := by decide +kernel
theorem d_Ch_take_72 : decode b_Ch_take 72 = .ok (.bipush 127, 2) := by decide +kernel
theorem d_Ch_take_74 : decode b_Ch_take 74 = .ok (.iload 14, 2) := by decide +kernel
theorem d_Ch_take_76 : decode b_Ch_take 76 = .ok (.isub, 1) := by decide +kernel
theorem d_Ch_take_77 : decode b_Ch_take 77 = .ok (.lushr, 1) := by decide +kernel
theorem d_Ch_take_78 : decode b_Ch_take 78 = .ok (.lconst 1, 1) := by decide +kernel
theorem d_Ch_take_79 : decode b_Ch_take 79 = .ok (.land, 1) := by decide +kernel
theorem d_Ch_take_80 : decode b_Ch_take 80 = .ok (.lstore 15, 2) := by decide +kernel
theorem d_Ch_take_82 : decode b_Ch_take 82 = .ok (.aload_n 0, 1) := by decide +kernel
theorem d_Ch_take_83 : decode b_Ch_take 83 = .ok (.dup, 1) := by decide +kernel
theorem d_Ch_take_84 : decode b_Ch_take 84 = .ok (.getfield 9, 3) := by decide +kernel
theorem d_Ch_take_87 : decode b_Ch_take 87 = .ok (.lload 10, 2) := by decide +kernel
theorem d_Ch_take_89 : decode b_Ch_take 89 = .ok (.lload 15, 2) := by decide +kernel
theorem d_Ch_take_91 : decode b_Ch_take 91 = .ok (.lneg, 1) := by decide +kernel
theorem d_Ch_take_92 : decode b_Ch_take 92 = .ok (.land, 1) := by decide +kernel
theorem d_Ch_take_93 : decode b_Ch_take 93 = .ok (.lxor, 1) := by decide +kernel
theorem d_Ch_take_94 : decode b_Ch_take 94 = .ok (.putfield 9, 3) := by decide +kernel
theorem d_Ch_take_97 : decode b_Ch_take 97 = .ok (.aload_n 0, 1) := by decide +kernel
theorem d_Ch_take_98 : decode b_Ch_take 98 = .ok (.dup, 1) := by decide +kernel
theorem d_Ch_take_99 : decode b_Ch_take 99 = .ok (.getfield 15, 3) := by decide +kernel
theorem d_Ch_take_102 : decode b_Ch_take 102 = .ok (.lload 12, 2) := by decide +kernel
theorem d_Ch_take_104 : decode b_Ch_take 104 = .ok (.lload 15, 2) := by decide +kernel
theorem d_Ch_take_106 : decode b_Ch_take 106 = .ok (.lneg, 1) := by decide +kernel
theorem d_Ch_take_107 : decode b_Ch_take 107 = .ok (.land, 1) := by decide +kernel
theorem d_Ch_take_108 : decode b_Ch_take 108 = .ok (.lxor, 1) := by decide +kernel
theorem d_Ch_take_109 : decode b_Ch_take 109 = .ok (.putfield 15, 3) := by decide +kernel
theorem d_Ch_take_112 : decode b_Ch_take 112 = .ok (.lload 12, 2) := by decide +kernel
theorem d_Ch_take_114 : decode b_Ch_take 114 = .ok (.lconst 1, 1) := by decide +kernel
theorem d_Ch_take_115 : decode b_Ch_take 115 = .ok (.land, 1) := by decide +kernel
theorem d_Ch_take_116 : decode b_Ch_take 116 = .ok (.lstore 17, 2) := by decide +kernel
theorem d_Ch_take_118 : decode b_Ch_take 118 = .ok (.lload 12, 2) := by decide +kernel
theorem d_Ch_take_120 : decode b_Ch_take 120 = .ok (.iconst 1, 1) := by decide +kernel
theorem d_Ch_take_121 : decode b_Ch_take 121 = .ok (.lushr, 1) := by decide +kernel
theorem d_Ch_take_122 : decode b_Ch_take 122 = .ok (.lload 10, 2) := by decide +kernel
theorem d_Ch_take_124 : decode b_Ch_take 124 = .ok (.bipush 63, 2) := by decide +kernel
theorem d_Ch_take_126 : decode b_Ch_take 126 = .ok (.lshl, 1) := by decide +kernel
theorem d_Ch_take_127 : decode b_Ch_take 127 = .ok (.lor, 1) := by decide +kernel
theorem d_Ch_take_128 : decode b_Ch_take 128 = .ok (.lstore 12, 2) := by decide +kernel
theorem d_Ch_take_130 : decode b_Ch_take 130 = .ok (.lload 10, 2) := by decide +kernel
theorem d_Ch_take_132 : decode b_Ch_take 132 = .ok (.iconst 1, 1) := by decide +kernel
theorem d_Ch_take_133 : decode b_Ch_take 133 = .ok (.lushr, 1) := by decide +kernel
theorem d_Ch_take_134 : decode b_Ch_take 134 = .ok (.ldc2_w 48, 3) := by decide +kernel
theorem d_Ch_take_137 : decode b_Ch_take 137 = .ok (.lload 17, 2) := by decide +kernel
theorem d_Ch_take_139 : decode b_Ch_take 139 = .ok (.lneg, 1) := by decide +kernel
theorem d_Ch_take_140 : decode b_Ch_take 140 = .ok (.land, 1) := by decide +kernel
theorem d_Ch_take_141 : decode b_Ch_take 141 = .ok (.lxor, 1) := by decide +kernel
theorem d_Ch_take_142 : decode b_Ch_take 142 = .ok (.lstore 10, 2) := by decide +kernel
theorem d_Ch_take_144 : decode b_Ch_take 144 = .ok (.iinc 14 1, 3) := by decide +kernel
theorem d_Ch_take_147 : decode b_Ch_take 147 = .ok (.goto (-105), 3) := by decide +kernel
theorem d_Ch_take_150 : decode b_Ch_take 150 = .ok (.return_, 1) := by decide +kernel
theorem d_Ci_init_0 : decode b_Ci_init 0 = .ok (.aload_n 0, 1) := by decide +kernel
theorem d_Ci_init_1 : decode b_Ci_init 1 = .ok (.invokespecial 1, 3) := by decide +kernel
theorem d_Ci_init_4 : decode b_Ci_init 4 = .ok (.aload_n 0, 1) := by decide +kernel
theorem d_Ci_init_5 : decode b_Ci_init 5 = .ok (.bipush 44, 2) := by decide +kernel
theorem d_Ci_init_7 : decode b_Ci_init 7 = .ok (.newarray .int, 2) := by decide +kernel
theorem d_Ci_init_9 : decode b_Ci_init 9 = .ok (.putfield 9, 3) := by decide +kernel
theorem d_Ci_init_12 : decode b_Ci_init 12 = .ok (.aload_n 0, 1) := by decide +kernel
theorem d_Ci_init_13 : decode b_Ci_init 13 = .ok (.lconst 0, 1) := by decide +kernel
theorem d_Ci_init_14 : decode b_Ci_init 14 = .ok (.putfield 13, 3) := by decide +kernel
theorem d_Ci_init_17 : decode b_Ci_init 17 = .ok (.aload_n 0, 1) := by decide +kernel
theorem d_Ci_init_18 : decode b_Ci_init 18 = .ok (.lconst 0, 1) := by decide +kernel
theorem d_Ci_init_19 : decode b_Ci_init 19 = .ok (.putfield 17, 3) := by decide +kernel
theorem d_Ci_init_22 : decode b_Ci_init 22 = .ok (.return_, 1) := by decide +kernel
theorem d_Ci_takeKey_0 : decode b_Ci_takeKey 0 = .ok (.aload_n 0, 1) := by decide +kernel
theorem d_Ci_takeKey_1 : decode b_Ci_takeKey 1 = .ok (.getfield 9, 3) := by decide +kernel
theorem d_Ci_takeKey_4 : decode b_Ci_takeKey 4 = .ok (.iconst 0, 1) := by decide +kernel
theorem d_Ci_takeKey_5 : decode b_Ci_takeKey 5 = .ok (.lload_n 1, 1) := by decide +kernel
theorem d_Ci_takeKey_6 : decode b_Ci_takeKey 6 = .ok (.bipush 32, 2) := by decide +kernel
theorem d_Ci_takeKey_8 : decode b_Ci_takeKey 8 = .ok (.lushr, 1) := by decide +kernel
theorem d_Ci_takeKey_9 : decode b_Ci_takeKey 9 = .ok (.l2i, 1) := by decide +kernel
theorem d_Ci_takeKey_10 : decode b_Ci_takeKey 10 = .ok (.iastore, 1) := by decide +kernel
theorem d_Ci_takeKey_11 : decode b_Ci_takeKey 11 = .ok (.aload_n 0, 1) := by decide +kernel
theorem d_Ci_takeKey_12 : decode b_Ci_takeKey 12 = .ok (.getfield 9, 3) := by decide +kernel
theorem d_Ci_takeKey_15 : decode b_Ci_takeKey 15 = .ok (.iconst 1, 1) := by decide +kernel
theorem d_Ci_takeKey_16 : decode b_Ci_takeKey 16 = .ok (.lload_n 1, 1) := by decide +kernel
theorem d_Ci_takeKey_17 : decode b_Ci_takeKey 17 = .ok (.l2i, 1) := by decide +kernel
theorem d_Ci_takeKey_18 : decode b_Ci_takeKey 18 = .ok (.iastore, 1) := by decide +kernel
theorem d_Ci_takeKey_19 : decode b_Ci_takeKey 19 = .ok (.aload_n 0, 1) := by decide +kernel
theorem d_Ci_takeKey_20 : decode b_Ci_takeKey 20 = .ok (.getfield 9, 3) := by decide +kernel
theorem d_Ci_takeKey_23 : decode b_Ci_takeKey 23 = .ok (.iconst 2, 1) := by decide +kernel
theorem d_Ci_takeKey_24 : decode b_Ci_takeKey 24 = .ok (.lload_n 3, 1) := by decide +kernel
theorem d_Ci_takeKey_25 : decode b_Ci_takeKey 25 = .ok (.bipush 32, 2) := by decide +kernel
theorem d_Ci_takeKey_27 : decode b_Ci_takeKey 27 = .ok (.lushr, 1) := by decide +kernel
theorem d_Ci_takeKey_28 : decode b_Ci_takeKey 28 = .ok (.l2i, 1) := by decide +kernel
theorem d_Ci_takeKey_29 : decode b_Ci_takeKey 29 = .ok (.iastore, 1) := by decide +kernel
theorem d_Ci_takeKey_30 : decode b_Ci_takeKey 30 = .ok (.aload_n 0, 1) := by decide +kernel
theorem d_Ci_takeKey_31 : decode b_Ci_takeKey 31 = .ok (.getfield 9, 3) := by decide +kernel
theorem d_Ci_takeKey_34 : decode b_Ci_takeKey 34 = .ok (.iconst 3, 1) := by decide +kernel
theorem d_Ci_takeKey_35 : decode b_Ci_takeKey 35 = .ok (.lload_n 3, 1) := by decide +kernel
theorem d_Ci_takeKey_36 : decode b_Ci_takeKey 36 = .ok (.l2i, 1) := by decide +kernel
theorem d_Ci_takeKey_37 : decode b_Ci_takeKey 37 = .ok (.iastore, 1) := by decide +kernel
theorem d_Ci_takeKey_38 : decode b_Ci_takeKey 38 = .ok (.iconst 1, 1) := by decide +kernel
theorem d_Ci_takeKey_39 : decode b_Ci_takeKey 39 = .ok (.istore 5, 2) := by decide +kernel
theorem d_Ci_takeKey_41 : decode b_Ci_takeKey 41 = .ok (.iconst 4, 1) := by decide +kernel
theorem d_Ci_takeKey_42 : decode b_Ci_takeKey 42 = .ok (.istore 6, 2) := by decide +kernel
theorem d_Ci_takeKey_44 : decode b_Ci_takeKey 44 = .ok (.iload 6, 2) := by decide +kernel
theorem d_Ci_takeKey_46 : decode b_Ci_takeKey 46 = .ok (.bipush 44, 2) := by decide +kernel
theorem d_Ci_takeKey_48 : decode b_Ci_takeKey 48 = .ok (.if_icmp .ge 81, 3) := by decide +kernel
theorem d_Ci_takeKey_51 : decode b_Ci_takeKey 51 = .ok (.aload_n 0, 1) := by decide +kernel
theorem d_Ci_takeKey_52 : decode b_Ci_takeKey 52 = .ok (.getfield 9, 3) := by decide +kernel
theorem d_Ci_takeKey_55 : decode b_Ci_takeKey 55 = .ok (.iload 6, 2) := by decide +kernel
theorem d_Ci_takeKey_57 : decode b_Ci_takeKey 57 = .ok (.iconst 1, 1) := by decide +kernel
theorem d_Ci_takeKey_58 : decode b_Ci_takeKey 58 = .ok (.isub, 1) := by decide +kernel
theorem d_Ci_takeKey_59 : decode b_Ci_takeKey 59 = .ok (.iaload, 1) := by decide +kernel
theorem d_Ci_takeKey_60 : decode b_Ci_takeKey 60 = .ok (.istore 7, 2) := by decide +kernel
theorem d_Ci_takeKey_62 : decode b_Ci_takeKey 62 = .ok (.iload 6, 2) := by decide +kernel
theorem d_Ci_takeKey_64 : decode b_Ci_takeKey 64 = .ok (.iconst 4, 1) := by decide +kernel
theorem d_Ci_takeKey_65 : decode b_Ci_takeKey 65 = .ok (.irem, 1) := by decide +kernel
theorem d_Ci_takeKey_66 : decode b_Ci_takeKey 66 = .ok (.ifCond .ne 38, 3) := by decide +kernel
theorem d_Ci_takeKey_69 : decode b_Ci_takeKey 69 = .ok (.iload 7, 2) := by decide +kernel
theorem d_Ci_takeKey_71 : decode b_Ci_takeKey 71 = .ok (.bipush 8, 2) := by decide +kernel
theorem d_Ci_takeKey_73 : decode b_Ci_takeKey 73 = .ok (.invokestatic 20, 3) := by decide +kernel
theorem d_Ci_takeKey_76 : decode b_Ci_takeKey 76 = .ok (.istore 8, 2) := by decide +kernel
theorem d_Ci_takeKey_78 : decode b_Ci_takeKey 78 = .ok (.iload 8, 2) := by decide +kernel
theorem d_Ci_takeKey_80 : decode b_Ci_takeKey 80 = .ok (.iload 8, 2) := by decide +kernel
theorem d_Ci_takeKey_82 : decode b_Ci_takeKey 82 = .ok (.iload 8, 2) := by decide +kernel
theorem d_Ci_takeKey_84 : decode b_Ci_takeKey 84 = .ok (.iload 8, 2) := by decide +kernel
theorem d_Ci_takeKey_86 : decode b_Ci_takeKey 86 = .ok (.invokestatic 24, 3) := by decide +kernel
theorem d_Ci_takeKey_89 : decode b_Ci_takeKey 89 = .ok (.iload 5, 2) := by decide +kernel
theorem d_Ci_takeKey_91 : decode b_Ci_takeKey 91 = .ok (.bipush 24, 2) := by decide +kernel
theorem d_Ci_takeKey_93 : decode b_Ci_takeKey 93 = .ok (.ishl, 1) := by decide +kernel
theorem d_Ci_takeKey_94 : decode b_Ci_takeKey 94 = .ok (.ixor, 1) := by decide +kernel
theorem d_Ci_takeKey_95 : decode b_Ci_takeKey 95 = .ok (.istore 7, 2) := by decide +kernel
theorem d_Ci_takeKey_97 : decode b_Ci_takeKey 97 = .ok (.iload 5, 2) := by decide +kernel
theorem d_Ci_takeKey_99 : decode b_Ci_takeKey 99 = .ok (.invokestatic 28, 3) := by decide +kernel
theorem d_Ci_takeKey_102 : decode b_Ci_takeKey 102 = .ok (.istore 5, 2) := by decide +kernel
theorem d_Ci_takeKey_104 : decode b_Ci_takeKey 104 = .ok (.aload_n 0, 1) := by decide +kernel
theorem d_Ci_takeKey_105 : decode b_Ci_takeKey 105 = .ok (.getfield 9, 3) := by decide +kernel
theorem d_Ci_takeKey_108 : decode b_Ci_takeKey 108 = .ok (.iload 6, 2) := by decide +kernel
theorem d_Ci_takeKey_110 : decode b_Ci_takeKey 110 = .ok (.aload_n 0, 1) := by decide +kernel
theorem d_Ci_takeKey_111 : decode b_Ci_takeKey 111 = .ok (.getfield 9, 3) := by decide +kernel
theorem d_Ci_takeKey_114 : decode b_Ci_takeKey 114 = .ok (.iload 6, 2) := by decide +kernel
theorem d_Ci_takeKey_116 : decode b_Ci_takeKey 116 = .ok (.iconst 4, 1) := by decide +kernel
theorem d_Ci_takeKey_117 : decode b_Ci_takeKey 117 = .ok (.isub, 1) := by decide +kernel
theorem d_Ci_takeKey_118 : decode b_Ci_takeKey 118 = .ok (.iaload, 1) := by decide +kernel
theorem d_Ci_takeKey_119 : decode b_Ci_takeKey 119 = .ok (.iload 7, 2) := by decide +kernel
theorem d_Ci_takeKey_121 : decode b_Ci_takeKey 121 = .ok (.ixor, 1) := by decide +kernel
theorem d_Ci_takeKey_122 : decode b_Ci_takeKey 122 = .ok (.iastore, 1) := by decide +kernel
theorem d_Ci_takeKey_123 : decode b_Ci_takeKey 123 = .ok (.iinc 6 1, 3) := by decide +kernel
theorem d_Ci_takeKey_126 : decode b_Ci_takeKey 126 = .ok (.goto (-82), 3) := by decide +kernel
theorem d_Ci_takeKey_129 : decode b_Ci_takeKey 129 = .ok (.return_, 1) := by decide +kernel
theorem d_Ci_encrypt_0 : decode b_Ci_encrypt 0 = .ok (.iload_n 1, 1) := by decide +kernel
theorem d_Ci_encrypt_1 : decode b_Ci_encrypt 1 = .ok (.aload_n 0, 1) := by decide +kernel
theorem d_Ci_encrypt_2 : decode b_Ci_encrypt 2 = .ok (.getfield 9, 3) := by decide +kernel
theorem d_Ci_encrypt_5 : decode b_Ci_encrypt 5 = .ok (.iconst 0, 1) := by decide +kernel
theorem d_Ci_encrypt_6 : decode b_Ci_encrypt 6 = .ok (.iaload, 1) := by decide +kernel
theorem d_Ci_encrypt_7 : decode b_Ci_encrypt 7 = .ok (.ixor, 1) := by decide +kernel
theorem d_Ci_encrypt_8 : decode b_Ci_encrypt 8 = .ok (.istore 5, 2) := by decide +kernel
theorem d_Ci_encrypt_10 : decode b_Ci_encrypt 10 = .ok (.iload_n 2, 1) := by decide +kernel
theorem d_Ci_encrypt_11 : decode b_Ci_encrypt 11 = .ok (.aload_n 0, 1) := by decide +kernel
theorem d_Ci_encrypt_12 : decode b_Ci_encrypt 12 = .ok (.getfield 9, 3) := by decide +kernel
theorem d_Ci_encrypt_15 : decode b_Ci_encrypt 15 = .ok (.iconst 1, 1) := by decide +kernel
theorem d_Ci_encrypt_16 : decode b_Ci_encrypt 16 = .ok (.iaload, 1) := by decide +kernel
theorem d_Ci_encrypt_17 : decode b_Ci_encrypt 17 = .ok (.ixor, 1) := by decide +kernel
theorem d_Ci_encrypt_18 : decode b_Ci_encrypt 18 = .ok (.istore 6, 2) := by decide +kernel
theorem d_Ci_encrypt_20 : decode b_Ci_encrypt 20 = .ok (.iload_n 3, 1) := by decide +kernel
theorem d_Ci_encrypt_21 : decode b_Ci_encrypt 21 = .ok (.aload_n 0, 1) := by decide +kernel
theorem d_Ci_encrypt_22 : decode b_Ci_encrypt 22 = .ok (.getfield 9, 3) := by decide +kernel
theorem d_Ci_encrypt_25 : decode b_Ci_encrypt 25 = .ok (.iconst 2, 1) := by decide +kernel
theorem d_Ci_encrypt_26 : decode b_Ci_encrypt 26 = .ok (.iaload, 1) := by decide +kernel
theorem d_Ci_encrypt_27 : decode b_Ci_encrypt 27 = .ok (.ixor, 1) := by decide +kernel
theorem d_Ci_encrypt_28 : decode b_Ci_encrypt 28 = .ok (.istore 7, 2) := by decide +kernel
theorem d_Ci_encrypt_30 : decode b_Ci_encrypt 30 = .ok (.iload 4, 2) := by decide +kernel
theorem d_Ci_encrypt_32 : decode b_Ci_encrypt 32 = .ok (.aload_n 0, 1) := by decide +kernel
theorem d_Ci_encrypt_33 : decode b_Ci_encrypt 33 = .ok (.getfield 9, 3) := by decide +kernel
theorem d_Ci_encrypt_36 : decode b_Ci_encrypt 36 = .ok (.iconst 3, 1) := by decide +kernel
theorem d_Ci_encrypt_37 : decode b_Ci_encrypt 37 = .ok (.iaload, 1) := by decide +kernel
theorem d_Ci_encrypt_38 : decode b_Ci_encrypt 38 = .ok (.ixor, 1) := by decide +kernel
theorem d_Ci_encrypt_39 : decode b_Ci_encrypt 39 = .ok (.istore 8, 2) := by decide +kernel
theorem d_Ci_encrypt_41 : decode b_Ci_encrypt 41 = .ok (.iconst 1, 1) := by decide +kernel
theorem d_Ci_encrypt_42 : decode b_Ci_encrypt 42 = .ok (.istore 9, 2) := by decide +kernel
theorem d_Ci_encrypt_44 : decode b_Ci_encrypt 44 = .ok (.iload 9, 2) := by decide +kernel
theorem d_Ci_encrypt_46 : decode b_Ci_encrypt 46 = .ok (.bipush 10, 2) := by decide +kernel
theorem d_Ci_encrypt_48 : decode b_Ci_encrypt 48 = .ok (.if_icmp .gt 189, 3) := by decide +kernel
theorem d_Ci_encrypt_51 : decode b_Ci_encrypt 51 = .ok (.iload 9, 2) := by decide +kernel
theorem d_Ci_encrypt_53 : decode b_Ci_encrypt 53 = .ok (.bipush 10, 2) := by decide +kernel
theorem d_Ci_encrypt_55 : decode b_Ci_encrypt 55 = .ok (.if_icmp .ge 7, 3) := by decide +kernel
theorem d_Ci_encrypt_58 : decode b_Ci_encrypt 58 = .ok (.iconst 1, 1) := by decide +kernel
theorem d_Ci_encrypt_59 : decode b_Ci_encrypt 59 = .ok (.goto 4, 3) := by decide +kernel
theorem d_Ci_encrypt_62 : decode b_Ci_encrypt 62 = .ok (.iconst 0, 1) := by decide +kernel
theorem d_Ci_encrypt_63 : decode b_Ci_encrypt 63 = .ok (.istore 10, 2) := by decide +kernel
theorem d_Ci_encrypt_65 : decode b_Ci_encrypt 65 = .ok (.iload 5, 2) := by decide +kernel
theorem d_Ci_encrypt_67 : decode b_Ci_encrypt 67 = .ok (.iload 6, 2) := by decide +kernel
theorem d_Ci_encrypt_69 : decode b_Ci_encrypt 69 = .ok (.iload 7, 2) := by decide +kernel
theorem d_Ci_encrypt_71 : decode b_Ci_encrypt 71 = .ok (.iload 8, 2) := by decide +kernel
theorem d_Ci_encrypt_73 : decode b_Ci_encrypt 73 = .ok (.invokestatic 24, 3) := by decide +kernel
theorem d_Ci_encrypt_76 : decode b_Ci_encrypt 76 = .ok (.istore 11, 2) := by decide +kernel
theorem d_Ci_encrypt_78 : decode b_Ci_encrypt 78 = .ok (.iload 6, 2) := by decide +kernel
theorem d_Ci_encrypt_80 : decode b_Ci_encrypt 80 = .ok (.iload 7, 2) := by decide +kernel
theorem d_Ci_encrypt_82 : decode b_Ci_encrypt 82 = .ok (.iload 8, 2) := by decide +kernel
theorem d_Ci_encrypt_84 : decode b_Ci_encrypt 84 = .ok (.iload 5, 2) := by decide +kernel
theorem d_Ci_encrypt_86 : decode b_Ci_encrypt 86 = .ok (.invokestatic 24, 3) := by decide +kernel
theorem d_Ci_encrypt_89 : decode b_Ci_encrypt 89 = .ok (.istore 12, 2) := by decide +kernel
theorem d_Ci_encrypt_91 : decode b_Ci_encrypt 91 = .ok (.iload 7, 2) := by decide +kernel
theorem d_Ci_encrypt_93 : decode b_Ci_encrypt 93 = .ok (.iload 8, 2) := by decide +kernel
theorem d_Ci_encrypt_95 : decode b_Ci_encrypt 95 = .ok (.iload 5, 2) := by decide +kernel
theorem d_Ci_encrypt_97 : decode b_Ci_encrypt 97 = .ok (.iload 6, 2) := by decide +kernel
theorem d_Ci_encrypt_99 : decode b_Ci_encrypt 99 = .ok (.invokestatic 24, 3) := by decide +kernel
theorem d_Ci_encrypt_102 : decode b_Ci_encrypt 102 = .ok (.istore 13, 2) := by decide +kernel
theorem d_Ci_encrypt_104 : decode b_Ci_encrypt 104 = .ok (.iload 8, 2) := by decide +kernel
theorem d_Ci_encrypt_106 : decode b_Ci_encrypt 106 = .ok (.iload 5, 2) := by decide +kernel
theorem d_Ci_encrypt_108 : decode b_Ci_encrypt 108 = .ok (.iload 6, 2) := by decide +kernel
theorem d_Ci_encrypt_110 : decode b_Ci_encrypt 110 = .ok (.iload 7, 2) := by decide +kernel
theorem d_Ci_encrypt_112 : decode b_Ci_encrypt 112 = .ok (.invokestatic 24, 3) := by decide +kernel
theorem d_Ci_encrypt_115 : decode b_Ci_encrypt 115 = .ok (.istore 14, 2) := by decide +kernel
theorem d_Ci_encrypt_117 : decode b_Ci_encrypt 117 = .ok (.iload 10, 2) := by decide +kernel
theorem d_Ci_encrypt_119 : decode b_Ci_encrypt 119 = .ok (.ifCond .eq 11, 3) := by decide +kernel
theorem d_Ci_encrypt_122 : decode b_Ci_encrypt 122 = .ok (.iload 11, 2) := by decide +kernel
theorem d_Ci_encrypt_124 : decode b_Ci_encrypt 124 = .ok (.invokestatic 32, 3) := by decide +kernel
theorem d_Ci_encrypt_127 : decode b_Ci_encrypt 127 = .ok (.goto 5, 3) := by decide +kernel
theorem d_Ci_encrypt_130 : decode b_Ci_encrypt 130 = .ok (.iload 11, 2) := by decide +kernel
theorem d_Ci_encrypt_132 : decode b_Ci_encrypt 132 = .ok (.aload_n 0, 1) := by decide +kernel
theorem d_Ci_encrypt_133 : decode b_Ci_encrypt 133 = .ok (.getfield 9, 3) := by decide +kernel
theorem d_Ci_encrypt_136 : decode b_Ci_encrypt 136 = .ok (.iconst 4, 1) := by decide +kernel
theorem d_Ci_encrypt_137 : decode b_Ci_encrypt 137 = .ok (.iload 9, 2) := by decide +kernel
theorem d_Ci_encrypt_139 : decode b_Ci_encrypt 139 = .ok (.imul, 1) := by decide +kernel
theorem d_Ci_encrypt_140 : decode b_Ci_encrypt 140 = .ok (.iaload, 1) := by decide +kernel
theorem d_Ci_encrypt_141 : decode b_Ci_encrypt 141 = .ok (.ixor, 1) := by decide +kernel
theorem d_Ci_encrypt_142 : decode b_Ci_encrypt 142 = .ok (.istore 5, 2) := by decide +kernel
theorem d_Ci_encrypt_144 : decode b_Ci_encrypt 144 = .ok (.iload 10, 2) := by decide +kernel
theorem d_Ci_encrypt_146 : decode b_Ci_encrypt 146 = .ok (.ifCond .eq 11, 3) := by decide +kernel
theorem d_Ci_encrypt_149 : decode b_Ci_encrypt 149 = .ok (.iload 12, 2) := by decide +kernel
theorem d_Ci_encrypt_151 : decode b_Ci_encrypt 151 = .ok (.invokestatic 32, 3) := by decide +kernel
theorem d_Ci_encrypt_154 : decode b_Ci_encrypt 154 = .ok (.goto 5, 3) := by decide +kernel
theorem d_Ci_encrypt_157 : decode b_Ci_encrypt 157 = .ok (.iload 12, 2) := by decide +kernel
theorem d_Ci_encrypt_159 : decode b_Ci_encrypt 159 = .ok (.aload_n 0, 1) := by decide +kernel
theorem d_Ci_encrypt_160 : decode b_Ci_encrypt 160 = .ok (.getfield 9, 3) := by decide +kernel
theorem d_Ci_encrypt_163 : decode b_Ci_encrypt 163 = .ok (.iconst 4, 1) := by decide +kernel
theorem d_Ci_encrypt_164 : decode b_Ci_encrypt 164 = .ok (.iload 9, 2) := by decide +kernel
theorem d_Ci_encrypt_166 : decode b_Ci_encrypt 166 = .ok (.imul, 1) := by decide +kernel
theorem d_Ci_encrypt_167 : decode b_Ci_encrypt 167 = .ok (.iconst 1, 1) := by decide +kernel
theorem d_Ci_encrypt_168 : decode b_Ci_encrypt 168 = .ok (.iadd, 1) := by decide +kernel
theorem d_Ci_encrypt_169 : decode b_Ci_encrypt 169 = .ok (.iaload, 1) := by decide +kernel
theorem d_Ci_encrypt_170 : decode b_Ci_encrypt 170 = .ok (.ixor, 1) := by decide +kernel
theorem d_Ci_encrypt_171 : decode b_Ci_encrypt 171 = .ok (.istore 6, 2) := by decide +kernel
theorem d_Ci_encrypt_173 : decode b_Ci_encrypt 173 = .ok (.iload 10, 2) := by decide +kernel
theorem d_Ci_encrypt_175 : decode b_Ci_encrypt 175 = .ok (.ifCond .eq 11, 3) := by decide +kernel
theorem d_Ci_encrypt_178 : decode b_Ci_encrypt 178 = .ok (.iload 13, 2) := by decide +kernel
theorem d_Ci_encrypt_180 : decode b_Ci_encrypt 180 = .ok (.invokestatic 32, 3) := by decide +kernel
theorem d_Ci_encrypt_183 : decode b_Ci_encrypt 183 = .ok (.goto 5, 3) := by decide +kernel
theorem d_Ci_encrypt_186 : decode b_Ci_encrypt 186 = .ok (.iload 13, 2) := by decide +kernel
theorem d_Ci_encrypt_188 : decode b_Ci_encrypt 188 = .ok (.aload_n 0, 1) := by decide +kernel
theorem d_Ci_encrypt_189 : decode b_Ci_encrypt 189 = .ok (.getfield 9, 3) := by decide +kernel
theorem d_Ci_encrypt_192 : decode b_Ci_encrypt 192 = .ok (.iconst 4, 1) := by decide +kernel
theorem d_Ci_encrypt_193 : decode b_Ci_encrypt 193 = .ok (.iload 9, 2) := by decide +kernel
theorem d_Ci_encrypt_195 : decode b_Ci_encrypt 195 = .ok (.imul, 1) := by decide +kernel
theorem d_Ci_encrypt_196 : decode b_Ci_encrypt 196 = .ok (.iconst 2, 1) := by decide +kernel
theorem d_Ci_encrypt_197 : decode b_Ci_encrypt 197 = .ok (.iadd, 1) := by decide +kernel
theorem d_Ci_encrypt_198 : decode b_Ci_encrypt 198 = .ok (.iaload, 1) := by decide +kernel
theorem d_Ci_encrypt_199 : decode b_Ci_encrypt 199 = .ok (.ixor, 1) := by decide +kernel
theorem d_Ci_encrypt_200 : decode b_Ci_encrypt 200 = .ok (.istore 7, 2) := by decide +kernel
theorem d_Ci_encrypt_202 : decode b_Ci_encrypt 202 = .ok (.iload 10, 2) := by decide +kernel
theorem d_Ci_encrypt_204 : decode b_Ci_encrypt 204 = .ok (.ifCond .eq 11, 3) := by decide +kernel
theorem d_Ci_encrypt_207 : decode b_Ci_encrypt 207 = .ok (.iload 14, 2) := by decide +kernel
theorem d_Ci_encrypt_209 : decode b_Ci_encrypt 209 = .ok (.invokestatic 32, 3) := by decide +kernel
theorem d_Ci_encrypt_212 : decode b_Ci_encrypt 212 = .ok (.goto 5, 3) := by decide +kernel
theorem d_Ci_encrypt_215 : decode b_Ci_encrypt 215 = .ok (.iload 14, 2) := by decide +kernel
theorem d_Ci_encrypt_217 : decode b_Ci_encrypt 217 = .ok (.aload_n 0, 1) := by decide +kernel
theorem d_Ci_encrypt_218 : decode b_Ci_encrypt 218 = .ok (.getfield 9, 3) := by decide +kernel
theorem d_Ci_encrypt_221 : decode b_Ci_encrypt 221 = .ok (.iconst 4, 1) := by decide +kernel
theorem d_Ci_encrypt_222 : decode b_Ci_encrypt 222 = .ok (.iload 9, 2) := by decide +kernel
theorem d_Ci_encrypt_224 : decode b_Ci_encrypt 224 = .ok (.imul, 1) := by decide +kernel
theorem d_Ci_encrypt_225 : decode b_Ci_encrypt 225 = .ok (.iconst 3, 1) := by decide +kernel
theorem d_Ci_encrypt_226 : decode b_Ci_encrypt 226 = .ok (.iadd, 1) := by decide +kernel
theorem d_Ci_encrypt_227 : decode b_Ci_encrypt 227 = .ok (.iaload, 1) := by decide +kernel
theorem d_Ci_encrypt_228 : decode b_Ci_encrypt 228 = .ok (.ixor, 1) := by decide +kernel
theorem d_Ci_encrypt_229 : decode b_Ci_encrypt 229 = .ok (.istore 8, 2) := by decide +kernel
theorem d_Ci_encrypt_231 : decode b_Ci_encrypt 231 = .ok (.iinc 9 1, 3) := by decide +kernel
theorem d_Ci_encrypt_234 : decode b_Ci_encrypt 234 = .ok (.goto (-190), 3) := by decide +kernel
theorem d_Ci_encrypt_237 : decode b_Ci_encrypt 237 = .ok (.aload_n 0, 1) := by decide +kernel
theorem d_Ci_encrypt_238 : decode b_Ci_encrypt 238 = .ok (.iload 5, 2) := by decide +kernel
theorem d_Ci_encrypt_240 : decode b_Ci_encrypt 240 = .ok (.i2l, 1) := by decide +kernel
theorem d_Ci_encrypt_241 : decode b_Ci_encrypt 241 = .ok (.bipush 32, 2) := by decide +kernel
theorem d_Ci_encrypt_243 : decode b_Ci_encrypt 243 = .ok (.lshl, 1) := by decide +kernel
theorem d_Ci_encrypt_244 : decode b_Ci_encrypt 244 = .ok (.iload 6, 2) := by decide +kernel
theorem d_Ci_encrypt_246 : decode b_Ci_encrypt 246 = .ok (.invokestatic 35, 3) := by decide +kernel
theorem d_Ci_encrypt_249 : decode b_Ci_encrypt 249 = .ok (.lor, 1) := by decide +kernel
theorem d_Ci_encrypt_250 : decode b_Ci_encrypt 250 = .ok (.putfield 13, 3) := by decide +kernel
theorem d_Ci_encrypt_253 : decode b_Ci_encrypt 253 = .ok (.aload_n 0, 1) := by decide +kernel
theorem d_Ci_encrypt_254 : decode b_Ci_encrypt 254 = .ok (.iload 7, 2) := by decide +kernel
theorem d_Ci_encrypt_256 : decode b_Ci_encrypt 256 = .ok (.i2l, 1) := by decide +kernel
theorem d_Ci_encrypt_257 : decode b_Ci_encrypt 257 = .ok (.bipush 32, 2) := by decide +kernel
theorem d_Ci_encrypt_259 : decode b_Ci_encrypt 259 = .ok (.lshl, 1) := by decide +kernel
theorem d_Ci_encrypt_260 : decode b_Ci_encrypt 260 = .ok (.iload 8, 2) := by decide +kernel
theorem d_Ci_encrypt_262 : decode b_Ci_encrypt 262 = .ok (.invokestatic 35, 3) := by decide +kernel
theorem d_Ci_encrypt_265 : decode b_Ci_encrypt 265 = .ok (.lor, 1) := by decide +kernel
theorem d_Ci_encrypt_266 : decode b_Ci_encrypt 266 = .ok (.putfield 17, 3) := by decide +kernel
theorem d_Ci_encrypt_269 : decode b_Ci_encrypt 269 = .ok (.return_, 1) := by decide +kernel
theorem d_Ci_unsigned_0 : decode b_Ci_unsigned 0 = .ok (.iload_n 0, 1) := by decide +kernel
theorem d_Ci_unsigned_1 : decode b_Ci_unsigned 1 = .ok (.i2l, 1) := by decide +kernel
theorem d_Ci_unsigned_2 : decode b_Ci_unsigned 2 = .ok (.ldc2_w 39, 3) := by decide +kernel
theorem d_Ci_unsigned_5 : decode b_Ci_unsigned 5 = .ok (.land, 1) := by decide +kernel
theorem d_Ci_unsigned_6 : decode b_Ci_unsigned 6 = .ok (.lreturn, 1) := by decide +kernel
theorem d_Ci_subAcross_0 : decode b_Ci_subAcross 0 = .ok (.getstatic 41, 3) := by decide +kernel
theorem d_Ci_subAcross_3 : decode b_Ci_subAcross 3 = .ok (.iload_n 0, 1) := by decide +kernel
theorem d_Ci_subAcross_4 : decode b_Ci_subAcross 4 = .ok (.bipush 24, 2) := by decide +kernel
theorem d_Ci_subAcross_6 : decode b_Ci_subAcross 6 = .ok (.iushr, 1) := by decide +kernel
theorem d_Ci_subAcross_7 : decode b_Ci_subAcross 7 = .ok (.iaload, 1) := by decide +kernel
theorem d_Ci_subAcross_8 : decode b_Ci_subAcross 8 = .ok (.bipush 24, 2) := by decide +kernel
theorem d_Ci_subAcross_10 : decode b_Ci_subAcross 10 = .ok (.ishl, 1) := by decide +kernel
theorem d_Ci_subAcross_11 : decode b_Ci_subAcross 11 = .ok (.getstatic 41, 3) := by decide +kernel
theorem d_Ci_subAcross_14 : decode b_Ci_subAcross 14 = .ok (.iload_n 1, 1) := by decide +kernel
theorem d_Ci_subAcross_15 : decode b_Ci_subAcross 15 = .ok (.bipush 16, 2) := by decide +kernel
theorem d_Ci_subAcross_17 : decode b_Ci_subAcross 17 = .ok (.iushr, 1) := by decide +kernel
theorem d_Ci_subAcross_18 : decode b_Ci_subAcross 18 = .ok (.sipush 255, 3) := by decide +kernel
theorem d_Ci_subAcross_21 : decode b_Ci_subAcross 21 = .ok (.iand, 1) := by decide +kernel
theorem d_Ci_subAcross_22 : decode b_Ci_subAcross 22 = .ok (.iaload, 1) := by decide +kernel
theorem d_Ci_subAcross_23 : decode b_Ci_subAcross 23 = .ok (.bipush 16, 2) := by decide +kernel
theorem d_Ci_subAcross_25 : decode b_Ci_subAcross 25 = .ok (.ishl, 1) := by decide +kernel
theorem d_Ci_subAcross_26 : decode b_Ci_subAcross 26 = .ok (.ior, 1) := by decide +kernel
theorem d_Ci_subAcross_27 : decode b_Ci_subAcross 27 = .ok (.getstatic 41, 3) := by decide +kernel
theorem d_Ci_subAcross_30 : decode b_Ci_subAcross 30 = .ok (.iload_n 2, 1) := by decide +kernel
theorem d_Ci_subAcross_31 : decode b_Ci_subAcross 31 = .ok (.bipush 8, 2) := by decide +kernel
theorem d_Ci_subAcross_33 : decode b_Ci_subAcross 33 = .ok (.iushr, 1) := by decide +kernel
theorem d_Ci_subAcross_34 : decode b_Ci_subAcross 34 = .ok (.sipush 255, 3) := by decide +kernel
theorem d_Ci_subAcross_37 : decode b_Ci_subAcross 37 = .ok (.iand, 1) := by decide +kernel
theorem d_Ci_subAcross_38 : decode b_Ci_subAcross 38 = .ok (.iaload, 1) := by decide +kernel
theorem d_Ci_subAcross_39 : decode b_Ci_subAcross 39 = .ok (.bipush 8, 2) := by decide +kernel
theorem d_Ci_subAcross_41 : decode b_Ci_subAcross 41 = .ok (.ishl, 1) := by decide +kernel
theorem d_Ci_subAcross_42 : decode b_Ci_subAcross 42 = .ok (.ior, 1) := by decide +kernel
theorem d_Ci_subAcross_43 : decode b_Ci_subAcross 43 = .ok (.getstatic 41, 3) := by decide +kernel
theorem d_Ci_subAcross_46 : decode b_Ci_subAcross 46 = .ok (.iload_n 3, 1) := by decide +kernel
theorem d_Ci_subAcross_47 : decode b_Ci_subAcross 47 = .ok (.sipush 255, 3) := by decide +kernel
theorem d_Ci_subAcross_50 : decode b_Ci_subAcross 50 = .ok (.iand, 1) := by decide +kernel
theorem d_Ci_subAcross_51 : decode b_Ci_subAcross 51 = .ok (.iaload, 1) := by decide +kernel
theorem d_Ci_subAcross_52 : decode b_Ci_subAcross 52 = .ok (.ior, 1) := by decide +kernel
theorem d_Ci_subAcross_53 : decode b_Ci_subAcross 53 = .ok (.ireturn, 1) := by decide +kernel
theorem d_Ci_mixed_0 : decode b_Ci_mixed 0 = .ok (.iload_n 0, 1) := by decide +kernel
theorem d_Ci_mixed_1 : decode b_Ci_mixed 1 = .ok (.bipush 8, 2) := by decide +kernel
theorem d_Ci_mixed_3 : decode b_Ci_mixed 3 = .ok (.invokestatic 20, 3) := by decide +kernel
theorem d_Ci_mixed_6 : decode b_Ci_mixed 6 = .ok (.istore_n 1, 1) := by decide +kernel
theorem d_Ci_mixed_7 : decode b_Ci_mixed 7 = .ok (.iload_n 0, 1) := by decide +kernel
theorem d_Ci_mixed_8 : decode b_Ci_mixed 8 = .ok (.iload_n 1, 1) := by decide +kernel
theorem d_Ci_mixed_9 : decode b_Ci_mixed 9 = .ok (.ixor, 1) := by decide +kernel
theorem d_Ci_mixed_10 : decode b_Ci_mixed 10 = .ok (.invokestatic 28, 3) := by decide +kernel
theorem d_Ci_mixed_13 : decode b_Ci_mixed 13 = .ok (.iload_n 1, 1) := by decide +kernel
theorem d_Ci_mixed_14 : decode b_Ci_mixed 14 = .ok (.ixor, 1) := by decide +kernel
theorem d_Ci_mixed_15 : decode b_Ci_mixed 15 = .ok (.iload_n 0, 1) := by decide +kernel
theorem d_Ci_mixed_16 : decode b_Ci_mixed 16 = .ok (.bipush 16, 2) := by decide +kernel
theorem d_Ci_mixed_18 : decode b_Ci_mixed 18 = .ok (.invokestatic 20, 3) := by decide +kernel
theorem d_Ci_mixed_21 : decode b_Ci_mixed 21 = .ok (.ixor, 1) := by decide +kernel
theorem d_Ci_mixed_22 : decode b_Ci_mixed 22 = .ok (.iload_n 0, 1) := by decide +kernel
theorem d_Ci_mixed_23 : decode b_Ci_mixed 23 = .ok (.bipush 24, 2) := by decide +kernel
theorem d_Ci_mixed_25 : decode b_Ci_mixed 25 = .ok (.invokestatic 20, 3) := by decide +kernel
theorem d_Ci_mixed_28 : decode b_Ci_mixed 28 = .ok (.ixor, 1) := by decide +kernel
theorem d_Ci_mixed_29 : decode b_Ci_mixed 29 = .ok (.ireturn, 1) := by decide +kernel
theorem d_Ci_doubled_0 : decode b_Ci_doubled 0 = .ok (.iload_n 0, 1) := by decide +kernel
theorem d_Ci_doubled_1 : decode b_Ci_doubled 1 = .ok (.ldc 44, 2) := by decide +kernel
theorem d_Ci_doubled_3 : decode b_Ci_doubled 3 = .ok (.iand, 1) := by decide +kernel
theorem d_Ci_doubled_4 : decode b_Ci_doubled 4 = .ok (.iconst 1, 1) := by decide +kernel
theorem d_Ci_doubled_5 : decode b_Ci_doubled 5 = .ok (.ishl, 1) := by decide +kernel
theorem d_Ci_doubled_6 : decode b_Ci_doubled 6 = .ok (.iload_n 0, 1) := by decide +kernel
theorem d_Ci_doubled_7 : decode b_Ci_doubled 7 = .ok (.bipush 7, 2) := by decide +kernel
theorem d_Ci_doubled_9 : decode b_Ci_doubled 9 = .ok (.iushr, 1) := by decide +kernel
theorem d_Ci_doubled_10 : decode b_Ci_doubled 10 = .ok (.ldc 45, 2) := by decide +kernel
theorem d_Ci_doubled_12 : decode b_Ci_doubled 12 = .ok (.iand, 1) := by decide +kernel
theorem d_Ci_doubled_13 : decode b_Ci_doubled 13 = .ok (.bipush 27, 2) := by decide +kernel
theorem d_Ci_doubled_15 : decode b_Ci_doubled 15 = .ok (.imul, 1) := by decide +kernel
theorem d_Ci_doubled_16 : decode b_Ci_doubled 16 = .ok (.ixor, 1) := by decide +kernel
theorem d_Ci_doubled_17 : decode b_Ci_doubled 17 = .ok (.ireturn, 1) := by decide +kernel
theorem d_Ci_turn_0 : decode b_Ci_turn 0 = .ok (.iload_n 0, 1) := by decide +kernel
theorem d_Ci_turn_1 : decode b_Ci_turn 1 = .ok (.iload_n 1, 1) := by decide +kernel
theorem d_Ci_turn_2 : decode b_Ci_turn 2 = .ok (.ishl, 1) := by decide +kernel
theorem d_Ci_turn_3 : decode b_Ci_turn 3 = .ok (.iload_n 0, 1) := by decide +kernel
theorem d_Ci_turn_4 : decode b_Ci_turn 4 = .ok (.bipush 32, 2) := by decide +kernel
theorem d_Ci_turn_6 : decode b_Ci_turn 6 = .ok (.iload_n 1, 1) := by decide +kernel
theorem d_Ci_turn_7 : decode b_Ci_turn 7 = .ok (.isub, 1) := by decide +kernel
theorem d_Ci_turn_8 : decode b_Ci_turn 8 = .ok (.iushr, 1) := by decide +kernel
theorem d_Ci_turn_9 : decode b_Ci_turn 9 = .ok (.ior, 1) := by decide +kernel
theorem d_Ci_turn_10 : decode b_Ci_turn 10 = .ok (.ireturn, 1) := by decide +kernel
theorem d_Ro_init_0 : decode b_Ro_init 0 = .ok (.aload_n 0, 1) := by decide +kernel
theorem d_Ro_init_1 : decode b_Ro_init 1 = .ok (.invokespecial 1, 3) := by decide +kernel
theorem d_Ro_init_4 : decode b_Ro_init 4 = .ok (.aload_n 0, 1) := by decide +kernel
theorem d_Ro_init_5 : decode b_Ro_init 5 = .ok (.iconst 0, 1) := by decide +kernel
theorem d_Ro_init_6 : decode b_Ro_init 6 = .ok (.putfield 7, 3) := by decide +kernel
theorem d_Ro_init_9 : decode b_Ro_init 9 = .ok (.aload_n 0, 1) := by decide +kernel
theorem d_Ro_init_10 : decode b_Ro_init 10 = .ok (.iconst 0, 1) := by decide +kernel
theorem d_Ro_init_11 : decode b_Ro_init 11 = .ok (.putfield 13, 3) := by decide +kernel
theorem d_Ro_init_14 : decode b_Ro_init 14 = .ok (.aload_n 0, 1) := by decide +kernel
theorem d_Ro_init_15 : decode b_Ro_init 15 = .ok (.iload_n 1, 1) := by decide +kernel
theorem d_Ro_init_16 : decode b_Ro_init 16 = .ok (.newarray .byte, 2) := by decide +kernel
theorem d_Ro_init_18 : decode b_Ro_init 18 = .ok (.putfield 17, 3) := by decide +kernel
theorem d_Ro_init_21 : decode b_Ro_init 21 = .ok (.return_, 1) := by decide +kernel
theorem d_Ro_clear_0 : decode b_Ro_clear 0 = .ok (.aload_n 0, 1) := by decide +kernel
theorem d_Ro_clear_1 : decode b_Ro_clear 1 = .ok (.iconst 0, 1) := by decide +kernel
theorem d_Ro_clear_2 : decode b_Ro_clear 2 = .ok (.putfield 7, 3) := by decide +kernel
theorem d_Ro_clear_5 : decode b_Ro_clear 5 = .ok (.aload_n 0, 1) := by decide +kernel
theorem d_Ro_clear_6 : decode b_Ro_clear 6 = .ok (.iconst 1, 1) := by decide +kernel
theorem d_Ro_clear_7 : decode b_Ro_clear 7 = .ok (.putfield 13, 3) := by decide +kernel
theorem d_Ro_clear_10 : decode b_Ro_clear 10 = .ok (.return_, 1) := by decide +kernel
theorem d_Ro_shorten_0 : decode b_Ro_shorten 0 = .ok (.iload_n 1, 1) := by decide +kernel
theorem d_Ro_shorten_1 : decode b_Ro_shorten 1 = .ok (.ifCond .lt 16, 3) := by decide +kernel
theorem d_Ro_shorten_4 : decode b_Ro_shorten 4 = .ok (.iload_n 1, 1) := by decide +kernel
theorem d_Ro_shorten_5 : decode b_Ro_shorten 5 = .ok (.aload_n 0, 1) := by decide +kernel
theorem d_Ro_shorten_6 : decode b_Ro_shorten 6 = .ok (.getfield 7, 3) := by decide +kernel
theorem d_Ro_shorten_9 : decode b_Ro_shorten 9 = .ok (.if_icmp .ge 8, 3) := by decide +kernel
theorem d_Ro_shorten_12 : decode b_Ro_shorten 12 = .ok (.aload_n 0, 1) := by decide +kernel
theorem d_Ro_shorten_13 : decode b_Ro_shorten 13 = .ok (.iload_n 1, 1) := by decide +kernel
theorem d_Ro_shorten_14 : decode b_Ro_shorten 14 = .ok (.putfield 7, 3) := by decide +kernel
theorem d_Ro_shorten_17 : decode b_Ro_shorten 17 = .ok (.return_, 1) := by decide +kernel
theorem d_Ro_append_0 : decode b_Ro_append 0 = .ok (.aload_n 0, 1) := by decide +kernel
theorem d_Ro_append_1 : decode b_Ro_append 1 = .ok (.getfield 7, 3) := by decide +kernel
theorem d_Ro_append_4 : decode b_Ro_append 4 = .ok (.aload_n 0, 1) := by decide +kernel
theorem d_Ro_append_5 : decode b_Ro_append 5 = .ok (.getfield 17, 3) := by decide +kernel
theorem d_Ro_append_8 : decode b_Ro_append 8 = .ok (.arraylength, 1) := by decide +kernel
theorem d_Ro_append_9 : decode b_Ro_append 9 = .ok (.if_icmp .ge 24, 3) := by decide +kernel
theorem d_Ro_append_12 : decode b_Ro_append 12 = .ok (.aload_n 0, 1) := by decide +kernel
theorem d_Ro_append_13 : decode b_Ro_append 13 = .ok (.getfield 17, 3) := by decide +kernel
theorem d_Ro_append_16 : decode b_Ro_append 16 = .ok (.aload_n 0, 1) := by decide +kernel
theorem d_Ro_append_17 : decode b_Ro_append 17 = .ok (.getfield 7, 3) := by decide +kernel
theorem d_Ro_append_20 : decode b_Ro_append 20 = .ok (.iload_n 1, 1) := by decide +kernel
theorem d_Ro_append_21 : decode b_Ro_append 21 = .ok (.i2b, 1) := by decide +kernel
theorem d_Ro_append_22 : decode b_Ro_append 22 = .ok (.bastore, 1) := by decide +kernel
theorem d_Ro_append_23 : decode b_Ro_append 23 = .ok (.aload_n 0, 1) := by decide +kernel
theorem d_Ro_append_24 : decode b_Ro_append 24 = .ok (.dup, 1) := by decide +kernel
theorem d_Ro_append_25 : decode b_Ro_append 25 = .ok (.getfield 7, 3) := by decide +kernel
theorem d_Ro_append_28 : decode b_Ro_append 28 = .ok (.iconst 1, 1) := by decide +kernel
theorem d_Ro_append_29 : decode b_Ro_append 29 = .ok (.iadd, 1) := by decide +kernel
theorem d_Ro_append_30 : decode b_Ro_append 30 = .ok (.putfield 7, 3) := by decide +kernel
theorem d_Ro_append_33 : decode b_Ro_append 33 = .ok (.return_, 1) := by decide +kernel
theorem d_Ro_appendNumber_0 : decode b_Ro_appendNumber 0 = .ok (.iload_n 3, 1) := by decide +kernel
theorem d_Ro_appendNumber_1 : decode b_Ro_appendNumber 1 = .ok (.iconst 1, 1) := by decide +kernel
theorem d_Ro_appendNumber_2 : decode b_Ro_appendNumber 2 = .ok (.isub, 1) := by decide +kernel
theorem d_Ro_appendNumber_3 : decode b_Ro_appendNumber 3 = .ok (.istore 4, 2) := by decide +kernel
theorem d_Ro_appendNumber_5 : decode b_Ro_appendNumber 5 = .ok (.iload 4, 2) := by decide +kernel
theorem d_Ro_appendNumber_7 : decode b_Ro_appendNumber 7 = .ok (.ifCond .lt 21, 3) := by decide +kernel
theorem d_Ro_appendNumber_10 : decode b_Ro_appendNumber 10 = .ok (.aload_n 0, 1) := by decide +kernel
theorem d_Ro_appendNumber_11 : decode b_Ro_appendNumber 11 = .ok (.lload_n 1, 1) := by decide +kernel
theorem d_Ro_appendNumber_12 : decode b_Ro_appendNumber 12 = .ok (.bipush 8, 2) := by decide +kernel
theorem d_Ro_appendNumber_14 : decode b_Ro_appendNumber 14 = .ok (.iload 4, 2) := by decide +kernel
theorem d_Ro_appendNumber_16 : decode b_Ro_appendNumber 16 = .ok (.imul, 1) := by decide +kernel
theorem d_Ro_appendNumber_17 : decode b_Ro_appendNumber 17 = .ok (.lushr, 1) := by decide +kernel
theorem d_Ro_appendNumber_18 : decode b_Ro_appendNumber 18 = .ok (.l2i, 1) := by decide +kernel
theorem d_Ro_appendNumber_19 : decode b_Ro_appendNumber 19 = .ok (.invokevirtual 21, 3) := by decide +kernel
theorem d_Ro_appendNumber_22 : decode b_Ro_appendNumber 22 = .ok (.iinc 4 (-1), 3) := by decide +kernel
theorem d_Ro_appendNumber_25 : decode b_Ro_appendNumber 25 = .ok (.goto (-20), 3) := by decide +kernel
theorem d_Ro_appendNumber_28 : decode b_Ro_appendNumber 28 = .ok (.return_, 1) := by decide +kernel
theorem d_Ro_appendRow_0 : decode b_Ro_appendRow 0 = .ok (.iload_n 2, 1) := by decide +kernel
theorem d_Ro_appendRow_1 : decode b_Ro_appendRow 1 = .ok (.istore 4, 2) := by decide +kernel
theorem d_Ro_appendRow_3 : decode b_Ro_appendRow 3 = .ok (.iload 4, 2) := by decide +kernel
theorem d_Ro_appendRow_5 : decode b_Ro_appendRow 5 = .ok (.iload_n 3, 1) := by decide +kernel
theorem d_Ro_appendRow_6 : decode b_Ro_appendRow 6 = .ok (.if_icmp .ge 20, 3) := by decide +kernel
theorem d_Ro_appendRow_9 : decode b_Ro_appendRow 9 = .ok (.aload_n 0, 1) := by decide +kernel
theorem d_Ro_appendRow_10 : decode b_Ro_appendRow 10 = .ok (.aload_n 1, 1) := by decide +kernel
theorem d_Ro_appendRow_11 : decode b_Ro_appendRow 11 = .ok (.iload 4, 2) := by decide +kernel
theorem d_Ro_appendRow_13 : decode b_Ro_appendRow 13 = .ok (.i2l, 1) := by decide +kernel
theorem d_Ro_appendRow_14 : decode b_Ro_appendRow 14 = .ok (.invokevirtual 25, 3) := by decide +kernel
theorem d_Ro_appendRow_17 : decode b_Ro_appendRow 17 = .ok (.invokevirtual 21, 3) := by decide +kernel
theorem d_Ro_appendRow_20 : decode b_Ro_appendRow 20 = .ok (.iinc 4 1, 3) := by decide +kernel
theorem d_Ro_appendRow_23 : decode b_Ro_appendRow 23 = .ok (.goto (-20), 3) := by decide +kernel

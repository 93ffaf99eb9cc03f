theorem d_Mo_addWords_28 : decode b_Mo_addWords 28 = .ok (.bipush 16, 2) := by decide +kernel
theorem d_Mo_addWords_30 : decode b_Mo_addWords 30 = .ok (.iload_n 2, 1) := by decide +kernel
theorem d_Mo_addWords_31 : decode b_Mo_addWords 31 = .ok (.imul, 1) := by decide +kernel
theorem d_Mo_addWords_32 : decode b_Mo_addWords 32 = .ok (.iadd, 1) := by decide +kernel
theorem d_Mo_addWords_33 : decode b_Mo_addWords 33 = .ok (.iload_n 3, 1) := by decide +kernel
theorem d_Mo_addWords_34 : decode b_Mo_addWords 34 = .ok (.iadd, 1) := by decide +kernel
theorem d_Mo_addWords_35 : decode b_Mo_addWords 35 = .ok (.iaload, 1) := by decide +kernel
theorem d_Mo_addWords_36 : decode b_Mo_addWords 36 = .ok (.ixor, 1) := by decide +kernel
theorem d_Mo_addWords_37 : decode b_Mo_addWords 37 = .ok (.iastore, 1) := by decide +kernel
theorem d_Mo_addWords_38 : decode b_Mo_addWords 38 = .ok (.iinc 3 1, 3) := by decide +kernel
theorem d_Mo_addWords_41 : decode b_Mo_addWords 41 = .ok (.goto (-39), 3) := by decide +kernel
theorem d_Mo_addWords_44 : decode b_Mo_addWords 44 = .ok (.return_, 1) := by decide +kernel
theorem d_Mo_round_0 : decode b_Mo_round 0 = .ok (.iconst 0, 1) := by decide +kernel
theorem d_Mo_round_1 : decode b_Mo_round 1 = .ok (.istore_n 2, 1) := by decide +kernel
theorem d_Mo_round_2 : decode b_Mo_round 2 = .ok (.iload_n 2, 1) := by decide +kernel
theorem d_Mo_round_3 : decode b_Mo_round 3 = .ok (.iconst 4, 1) := by decide +kernel
theorem d_Mo_round_4 : decode b_Mo_round 4 = .ok (.if_icmp .ge 51, 3) := by decide +kernel
theorem d_Mo_round_7 : decode b_Mo_round 7 = .ok (.iconst 0, 1) := by decide +kernel
theorem d_Mo_round_8 : decode b_Mo_round 8 = .ok (.istore_n 3, 1) := by decide +kernel
theorem d_Mo_round_9 : decode b_Mo_round 9 = .ok (.iload_n 3, 1) := by decide +kernel
theorem d_Mo_round_10 : decode b_Mo_round 10 = .ok (.iconst 4, 1) := by decide +kernel
theorem d_Mo_round_11 : decode b_Mo_round 11 = .ok (.if_icmp .ge 38, 3) := by decide +kernel
theorem d_Mo_round_14 : decode b_Mo_round 14 = .ok (.aload_n 0, 1) := by decide +kernel
theorem d_Mo_round_15 : decode b_Mo_round 15 = .ok (.getfield 75, 3) := by decide +kernel
theorem d_Mo_round_18 : decode b_Mo_round 18 = .ok (.iconst 4, 1) := by decide +kernel
theorem d_Mo_round_19 : decode b_Mo_round 19 = .ok (.iload_n 2, 1) := by decide +kernel
theorem d_Mo_round_20 : decode b_Mo_round 20 = .ok (.imul, 1) := by decide +kernel
theorem d_Mo_round_21 : decode b_Mo_round 21 = .ok (.iload_n 3, 1) := by decide +kernel
theorem d_Mo_round_22 : decode b_Mo_round 22 = .ok (.iadd, 1) := by decide +kernel
theorem d_Mo_round_23 : decode b_Mo_round 23 = .ok (.aload_n 0, 1) := by decide +kernel
theorem d_Mo_round_24 : decode b_Mo_round 24 = .ok (.getfield 7, 3) := by decide +kernel
theorem d_Mo_round_27 : decode b_Mo_round 27 = .ok (.aload_n 0, 1) := by decide +kernel
theorem d_Mo_round_28 : decode b_Mo_round 28 = .ok (.getfield 72, 3) := by decide +kernel
theorem d_Mo_round_31 : decode b_Mo_round 31 = .ok (.iconst 4, 1) := by decide +kernel
theorem d_Mo_round_32 : decode b_Mo_round 32 = .ok (.iload_n 2, 1) := by decide +kernel
theorem d_Mo_round_33 : decode b_Mo_round 33 = .ok (.iload_n 3, 1) := by decide +kernel
theorem d_Mo_round_34 : decode b_Mo_round 34 = .ok (.iadd, 1) := by decide +kernel
theorem d_Mo_round_35 : decode b_Mo_round 35 = .ok (.iconst 4, 1) := by decide +kernel
theorem d_Mo_round_36 : decode b_Mo_round 36 = .ok (.irem, 1) := by decide +kernel
theorem d_Mo_round_37 : decode b_Mo_round 37 = .ok (.imul, 1) := by decide +kernel
theorem d_Mo_round_38 : decode b_Mo_round 38 = .ok (.iload_n 3, 1) := by decide +kernel
theorem d_Mo_round_39 : decode b_Mo_round 39 = .ok (.iadd, 1) := by decide +kernel
theorem d_Mo_round_40 : decode b_Mo_round 40 = .ok (.iaload, 1) := by decide +kernel
theorem d_Mo_round_41 : decode b_Mo_round 41 = .ok (.iaload, 1) := by decide +kernel
theorem d_Mo_round_42 : decode b_Mo_round 42 = .ok (.iastore, 1) := by decide +kernel
theorem d_Mo_round_43 : decode b_Mo_round 43 = .ok (.iinc 3 1, 3) := by decide +kernel
theorem d_Mo_round_46 : decode b_Mo_round 46 = .ok (.goto (-37), 3) := by decide +kernel
theorem d_Mo_round_49 : decode b_Mo_round 49 = .ok (.iinc 2 1, 3) := by decide +kernel
theorem d_Mo_round_52 : decode b_Mo_round 52 = .ok (.goto (-50), 3) := by decide +kernel
theorem d_Mo_round_55 : decode b_Mo_round 55 = .ok (.iconst 0, 1) := by decide +kernel
theorem d_Mo_round_56 : decode b_Mo_round 56 = .ok (.istore_n 2, 1) := by decide +kernel
theorem d_Mo_round_57 : decode b_Mo_round 57 = .ok (.iload_n 2, 1) := by decide +kernel
theorem d_Mo_round_58 : decode b_Mo_round 58 = .ok (.bipush 16, 2) := by decide +kernel
theorem d_Mo_round_60 : decode b_Mo_round 60 = .ok (.if_icmp .ge 103, 3) := by decide +kernel
theorem d_Mo_round_63 : decode b_Mo_round 63 = .ok (.iload_n 2, 1) := by decide +kernel
theorem d_Mo_round_64 : decode b_Mo_round 64 = .ok (.iload_n 2, 1) := by decide +kernel
theorem d_Mo_round_65 : decode b_Mo_round 65 = .ok (.iconst 4, 1) := by decide +kernel
theorem d_Mo_round_66 : decode b_Mo_round 66 = .ok (.irem, 1) := by decide +kernel
theorem d_Mo_round_67 : decode b_Mo_round 67 = .ok (.isub, 1) := by decide +kernel
theorem d_Mo_round_68 : decode b_Mo_round 68 = .ok (.istore_n 3, 1) := by decide +kernel
theorem d_Mo_round_69 : decode b_Mo_round 69 = .ok (.iload_n 2, 1) := by decide +kernel
theorem d_Mo_round_70 : decode b_Mo_round 70 = .ok (.iconst 4, 1) := by decide +kernel
theorem d_Mo_round_71 : decode b_Mo_round 71 = .ok (.irem, 1) := by decide +kernel
theorem d_Mo_round_72 : decode b_Mo_round 72 = .ok (.istore 4, 2) := by decide +kernel
theorem d_Mo_round_74 : decode b_Mo_round 74 = .ok (.aload_n 0, 1) := by decide +kernel
theorem d_Mo_round_75 : decode b_Mo_round 75 = .ok (.getfield 75, 3) := by decide +kernel
theorem d_Mo_round_78 : decode b_Mo_round 78 = .ok (.iload_n 3, 1) := by decide +kernel
theorem d_Mo_round_79 : decode b_Mo_round 79 = .ok (.iload 4, 2) := by decide +kernel
theorem d_Mo_round_81 : decode b_Mo_round 81 = .ok (.iconst 1, 1) := by decide +kernel
theorem d_Mo_round_82 : decode b_Mo_round 82 = .ok (.iadd, 1) := by decide +kernel
theorem d_Mo_round_83 : decode b_Mo_round 83 = .ok (.iconst 4, 1) := by decide +kernel
theorem d_Mo_round_84 : decode b_Mo_round 84 = .ok (.irem, 1) := by decide +kernel
theorem d_Mo_round_85 : decode b_Mo_round 85 = .ok (.iadd, 1) := by decide +kernel
theorem d_Mo_round_86 : decode b_Mo_round 86 = .ok (.iaload, 1) := by decide +kernel
theorem d_Mo_round_87 : decode b_Mo_round 87 = .ok (.istore 5, 2) := by decide +kernel
theorem d_Mo_round_89 : decode b_Mo_round 89 = .ok (.aload_n 0, 1) := by decide +kernel
theorem d_Mo_round_90 : decode b_Mo_round 90 = .ok (.getfield 75, 3) := by decide +kernel
theorem d_Mo_round_93 : decode b_Mo_round 93 = .ok (.iload_n 3, 1) := by decide +kernel
theorem d_Mo_round_94 : decode b_Mo_round 94 = .ok (.iload 4, 2) := by decide +kernel
theorem d_Mo_round_96 : decode b_Mo_round 96 = .ok (.iconst 2, 1) := by decide +kernel
theorem d_Mo_round_97 : decode b_Mo_round 97 = .ok (.iadd, 1) := by decide +kernel
theorem d_Mo_round_98 : decode b_Mo_round 98 = .ok (.iconst 4, 1) := by decide +kernel
theorem d_Mo_round_99 : decode b_Mo_round 99 = .ok (.irem, 1) := by decide +kernel
theorem d_Mo_round_100 : decode b_Mo_round 100 = .ok (.iadd, 1) := by decide +kernel
theorem d_Mo_round_101 : decode b_Mo_round 101 = .ok (.iaload, 1) := by decide +kernel
theorem d_Mo_round_102 : decode b_Mo_round 102 = .ok (.aload_n 0, 1) := by decide +kernel
theorem d_Mo_round_103 : decode b_Mo_round 103 = .ok (.getfield 75, 3) := by decide +kernel
theorem d_Mo_round_106 : decode b_Mo_round 106 = .ok (.iload_n 3, 1) := by decide +kernel
theorem d_Mo_round_107 : decode b_Mo_round 107 = .ok (.iload 4, 2) := by decide +kernel
theorem d_Mo_round_109 : decode b_Mo_round 109 = .ok (.iconst 3, 1) := by decide +kernel
theorem d_Mo_round_110 : decode b_Mo_round 110 = .ok (.iadd, 1) := by decide +kernel
theorem d_Mo_round_111 : decode b_Mo_round 111 = .ok (.iconst 4, 1) := by decide +kernel
theorem d_Mo_round_112 : decode b_Mo_round 112 = .ok (.irem, 1) := by decide +kernel
theorem d_Mo_round_113 : decode b_Mo_round 113 = .ok (.iadd, 1) := by decide +kernel
theorem d_Mo_round_114 : decode b_Mo_round 114 = .ok (.iaload, 1) := by decide +kernel
theorem d_Mo_round_115 : decode b_Mo_round 115 = .ok (.ixor, 1) := by decide +kernel
theorem d_Mo_round_116 : decode b_Mo_round 116 = .ok (.istore 6, 2) := by decide +kernel
theorem d_Mo_round_118 : decode b_Mo_round 118 = .ok (.aload_n 0, 1) := by decide +kernel
theorem d_Mo_round_119 : decode b_Mo_round 119 = .ok (.getfield 72, 3) := by decide +kernel
theorem d_Mo_round_122 : decode b_Mo_round 122 = .ok (.iload_n 2, 1) := by decide +kernel
theorem d_Mo_round_123 : decode b_Mo_round 123 = .ok (.iload_n 1, 1) := by decide +kernel
theorem d_Mo_round_124 : decode b_Mo_round 124 = .ok (.ifCond .eq 26, 3) := by decide +kernel
theorem d_Mo_round_127 : decode b_Mo_round 127 = .ok (.aload_n 0, 1) := by decide +kernel
theorem d_Mo_round_128 : decode b_Mo_round 128 = .ok (.getfield 75, 3) := by decide +kernel
theorem d_Mo_round_131 : decode b_Mo_round 131 = .ok (.iload_n 2, 1) := by decide +kernel
theorem d_Mo_round_132 : decode b_Mo_round 132 = .ok (.iaload, 1) := by decide +kernel
theorem d_Mo_round_133 : decode b_Mo_round 133 = .ok (.iconst 2, 1) := by decide +kernel
theorem d_Mo_round_134 : decode b_Mo_round 134 = .ok (.invokestatic 90, 3) := by decide +kernel
theorem d_Mo_round_137 : decode b_Mo_round 137 = .ok (.iload 5, 2) := by decide +kernel
theorem d_Mo_round_139 : decode b_Mo_round 139 = .ok (.iconst 3, 1) := by decide +kernel
theorem d_Mo_round_140 : decode b_Mo_round 140 = .ok (.invokestatic 90, 3) := by decide +kernel
theorem d_Mo_round_143 : decode b_Mo_round 143 = .ok (.ixor, 1) := by decide +kernel
theorem d_Mo_round_144 : decode b_Mo_round 144 = .ok (.iload 6, 2) := by decide +kernel
theorem d_Mo_round_146 : decode b_Mo_round 146 = .ok (.ixor, 1) := by decide +kernel
theorem d_Mo_round_147 : decode b_Mo_round 147 = .ok (.goto 9, 3) := by decide +kernel
theorem d_Mo_round_150 : decode b_Mo_round 150 = .ok (.aload_n 0, 1) := by decide +kernel
theorem d_Mo_round_151 : decode b_Mo_round 151 = .ok (.getfield 75, 3) := by decide +kernel
theorem d_Mo_round_154 : decode b_Mo_round 154 = .ok (.iload_n 2, 1) := by decide +kernel
theorem d_Mo_round_155 : decode b_Mo_round 155 = .ok (.iaload, 1) := by decide +kernel
theorem d_Mo_round_156 : decode b_Mo_round 156 = .ok (.iastore, 1) := by decide +kernel
theorem d_Mo_round_157 : decode b_Mo_round 157 = .ok (.iinc 2 1, 3) := by decide +kernel
theorem d_Mo_round_160 : decode b_Mo_round 160 = .ok (.goto (-103), 3) := by decide +kernel
theorem d_Mo_round_163 : decode b_Mo_round 163 = .ok (.return_, 1) := by decide +kernel
theorem d_Mo_encrypt_0 : decode b_Mo_encrypt 0 = .ok (.aload_n 0, 1) := by decide +kernel
theorem d_Mo_encrypt_1 : decode b_Mo_encrypt 1 = .ok (.iload_n 1, 1) := by decide +kernel
theorem d_Mo_encrypt_2 : decode b_Mo_encrypt 2 = .ok (.iconst 0, 1) := by decide +kernel
theorem d_Mo_encrypt_3 : decode b_Mo_encrypt 3 = .ok (.invokevirtual 100, 3) := by decide +kernel
theorem d_Mo_encrypt_6 : decode b_Mo_encrypt 6 = .ok (.iconst 1, 1) := by decide +kernel
theorem d_Mo_encrypt_7 : decode b_Mo_encrypt 7 = .ok (.istore_n 2, 1) := by decide +kernel
theorem d_Mo_encrypt_8 : decode b_Mo_encrypt 8 = .ok (.iload_n 2, 1) := by decide +kernel
theorem d_Mo_encrypt_9 : decode b_Mo_encrypt 9 = .ok (.bipush 10, 2) := by decide +kernel
theorem d_Mo_encrypt_11 : decode b_Mo_encrypt 11 = .ok (.if_icmp .gt 30, 3) := by decide +kernel
theorem d_Mo_encrypt_14 : decode b_Mo_encrypt 14 = .ok (.aload_n 0, 1) := by decide +kernel
theorem d_Mo_encrypt_15 : decode b_Mo_encrypt 15 = .ok (.iload_n 2, 1) := by decide +kernel
theorem d_Mo_encrypt_16 : decode b_Mo_encrypt 16 = .ok (.bipush 10, 2) := by decide +kernel
theorem d_Mo_encrypt_18 : decode b_Mo_encrypt 18 = .ok (.if_icmp .ge 7, 3) := by decide +kernel
theorem d_Mo_encrypt_21 : decode b_Mo_encrypt 21 = .ok (.iconst 1, 1) := by decide +kernel
theorem d_Mo_encrypt_22 : decode b_Mo_encrypt 22 = .ok (.goto 4, 3) := by decide +kernel
theorem d_Mo_encrypt_25 : decode b_Mo_encrypt 25 = .ok (.iconst 0, 1) := by decide +kernel
theorem d_Mo_encrypt_26 : decode b_Mo_encrypt 26 = .ok (.invokevirtual 104, 3) := by decide +kernel
theorem d_Mo_encrypt_29 : decode b_Mo_encrypt 29 = .ok (.aload_n 0, 1) := by decide +kernel
theorem d_Mo_encrypt_30 : decode b_Mo_encrypt 30 = .ok (.iload_n 1, 1) := by decide +kernel
theorem d_Mo_encrypt_31 : decode b_Mo_encrypt 31 = .ok (.iload_n 2, 1) := by decide +kernel
theorem d_Mo_encrypt_32 : decode b_Mo_encrypt 32 = .ok (.invokevirtual 100, 3) := by decide +kernel
theorem d_Mo_encrypt_35 : decode b_Mo_encrypt 35 = .ok (.iinc 2 1, 3) := by decide +kernel
theorem d_Mo_encrypt_38 : decode b_Mo_encrypt 38 = .ok (.goto (-30), 3) := by decide +kernel
theorem d_Mo_encrypt_41 : decode b_Mo_encrypt 41 = .ok (.return_, 1) := by decide +kernel
theorem d_Mo_counted_0 : decode b_Mo_counted 0 = .ok (.iconst 0, 1) := by decide +kernel
theorem d_Mo_counted_1 : decode b_Mo_counted 1 = .ok (.istore_n 3, 1) := by decide +kernel
theorem d_Mo_counted_2 : decode b_Mo_counted 2 = .ok (.iload_n 3, 1) := by decide +kernel
theorem d_Mo_counted_3 : decode b_Mo_counted 3 = .ok (.iconst 4, 1) := by decide +kernel
theorem d_Mo_counted_4 : decode b_Mo_counted 4 = .ok (.if_icmp .ge 55, 3) := by decide +kernel
theorem d_Mo_counted_7 : decode b_Mo_counted 7 = .ok (.aload_n 0, 1) := by decide +kernel
theorem d_Mo_counted_8 : decode b_Mo_counted 8 = .ok (.getfield 72, 3) := by decide +kernel
theorem d_Mo_counted_11 : decode b_Mo_counted 11 = .ok (.iload_n 3, 1) := by decide +kernel
theorem d_Mo_counted_12 : decode b_Mo_counted 12 = .ok (.aload_n 0, 1) := by decide +kernel
theorem d_Mo_counted_13 : decode b_Mo_counted 13 = .ok (.getfield 23, 3) := by decide +kernel
theorem d_Mo_counted_16 : decode b_Mo_counted 16 = .ok (.iload_n 1, 1) := by decide +kernel
theorem d_Mo_counted_17 : decode b_Mo_counted 17 = .ok (.iaload, 1) := by decide +kernel
theorem d_Mo_counted_18 : decode b_Mo_counted 18 = .ok (.bipush 24, 2) := by decide +kernel
theorem d_Mo_counted_20 : decode b_Mo_counted 20 = .ok (.bipush 8, 2) := by decide +kernel
theorem d_Mo_counted_22 : decode b_Mo_counted 22 = .ok (.iload_n 3, 1) := by decide +kernel
theorem d_Mo_counted_23 : decode b_Mo_counted 23 = .ok (.imul, 1) := by decide +kernel
theorem d_Mo_counted_24 : decode b_Mo_counted 24 = .ok (.isub, 1) := by decide +kernel
theorem d_Mo_counted_25 : decode b_Mo_counted 25 = .ok (.ishr, 1) := by decide +kernel
theorem d_Mo_counted_26 : decode b_Mo_counted 26 = .ok (.sipush 255, 3) := by decide +kernel
theorem d_Mo_counted_29 : decode b_Mo_counted 29 = .ok (.iand, 1) := by decide +kernel
theorem d_Mo_counted_30 : decode b_Mo_counted 30 = .ok (.iastore, 1) := by decide +kernel
theorem d_Mo_counted_31 : decode b_Mo_counted 31 = .ok (.aload_n 0, 1) := by decide +kernel
theorem d_Mo_counted_32 : decode b_Mo_counted 32 = .ok (.getfield 72, 3) := by decide +kernel
theorem d_Mo_counted_35 : decode b_Mo_counted 35 = .ok (.bipush 12, 2) := by decide +kernel
theorem d_Mo_counted_37 : decode b_Mo_counted 37 = .ok (.iload_n 3, 1) := by decide +kernel
theorem d_Mo_counted_38 : decode b_Mo_counted 38 = .ok (.iadd, 1) := by decide +kernel
theorem d_Mo_counted_39 : decode b_Mo_counted 39 = .ok (.iload_n 2, 1) := by decide +kernel
theorem d_Mo_counted_40 : decode b_Mo_counted 40 = .ok (.bipush 24, 2) := by decide +kernel
theorem d_Mo_counted_42 : decode b_Mo_counted 42 = .ok (.bipush 8, 2) := by decide +kernel
theorem d_Mo_counted_44 : decode b_Mo_counted 44 = .ok (.iload_n 3, 1) := by decide +kernel
theorem d_Mo_counted_45 : decode b_Mo_counted 45 = .ok (.imul, 1) := by decide +kernel
theorem d_Mo_counted_46 : decode b_Mo_counted 46 = .ok (.isub, 1) := by decide +kernel
theorem d_Mo_counted_47 : decode b_Mo_counted 47 = .ok (.ishr, 1) := by decide +kernel
theorem d_Mo_counted_48 : decode b_Mo_counted 48 = .ok (.sipush 255, 3) := by decide +kernel
theorem d_Mo_counted_51 : decode b_Mo_counted 51 = .ok (.iand, 1) := by decide +kernel
theorem d_Mo_counted_52 : decode b_Mo_counted 52 = .ok (.iastore, 1) := by decide +kernel
theorem d_Mo_counted_53 : decode b_Mo_counted 53 = .ok (.iinc 3 1, 3) := by decide +kernel
theorem d_Mo_counted_56 : decode b_Mo_counted 56 = .ok (.goto (-54), 3) := by decide +kernel
theorem d_Mo_counted_59 : decode b_Mo_counted 59 = .ok (.iconst 0, 1) := by decide +kernel
theorem d_Mo_counted_60 : decode b_Mo_counted 60 = .ok (.istore_n 3, 1) := by decide +kernel
theorem d_Mo_counted_61 : decode b_Mo_counted 61 = .ok (.iload_n 3, 1) := by decide +kernel
theorem d_Mo_counted_62 : decode b_Mo_counted 62 = .ok (.bipush 8, 2) := by decide +kernel
theorem d_Mo_counted_64 : decode b_Mo_counted 64 = .ok (.if_icmp .ge 26, 3) := by decide +kernel
theorem d_Mo_counted_67 : decode b_Mo_counted 67 = .ok (.aload_n 0, 1) := by decide +kernel
theorem d_Mo_counted_68 : decode b_Mo_counted 68 = .ok (.getfield 72, 3) := by decide +kernel
theorem d_Mo_counted_71 : decode b_Mo_counted 71 = .ok (.iconst 4, 1) := by decide +kernel
theorem d_Mo_counted_72 : decode b_Mo_counted 72 = .ok (.iload_n 3, 1) := by decide +kernel
theorem d_Mo_counted_73 : decode b_Mo_counted 73 = .ok (.iadd, 1) := by decide +kernel
theorem d_Mo_counted_74 : decode b_Mo_counted 74 = .ok (.aload_n 0, 1) := by decide +kernel
theorem d_Mo_counted_75 : decode b_Mo_counted 75 = .ok (.getfield 60, 3) := by decide +kernel
theorem d_Mo_counted_78 : decode b_Mo_counted 78 = .ok (.bipush 8, 2) := by decide +kernel
theorem d_Mo_counted_80 : decode b_Mo_counted 80 = .ok (.iload_n 3, 1) := by decide +kernel
theorem d_Mo_counted_81 : decode b_Mo_counted 81 = .ok (.iadd, 1) := by decide +kernel
theorem d_Mo_counted_82 : decode b_Mo_counted 82 = .ok (.iaload, 1) := by decide +kernel
theorem d_Mo_counted_83 : decode b_Mo_counted 83 = .ok (.iastore, 1) := by decide +kernel
theorem d_Mo_counted_84 : decode b_Mo_counted 84 = .ok (.iinc 3 1, 3) := by decide +kernel
theorem d_Mo_counted_87 : decode b_Mo_counted 87 = .ok (.goto (-26), 3) := by decide +kernel
theorem d_Mo_counted_90 : decode b_Mo_counted 90 = .ok (.aload_n 0, 1) := by decide +kernel
theorem d_Mo_counted_91 : decode b_Mo_counted 91 = .ok (.iload_n 1, 1) := by decide +kernel
theorem d_Mo_counted_92 : decode b_Mo_counted 92 = .ok (.invokevirtual 108, 3) := by decide +kernel
theorem d_Mo_counted_95 : decode b_Mo_counted 95 = .ok (.return_, 1) := by decide +kernel
theorem d_Mo_bit_0 : decode b_Mo_bit 0 = .ok (.aload_n 0, 1) := by decide +kernel
theorem d_Mo_bit_1 : decode b_Mo_bit 1 = .ok (.iload_n 1, 1) := by decide +kernel
theorem d_Mo_bit_2 : decode b_Mo_bit 2 = .ok (.bipush 8, 2) := by decide +kernel
theorem d_Mo_bit_4 : decode b_Mo_bit 4 = .ok (.idiv, 1) := by decide +kernel
theorem d_Mo_bit_5 : decode b_Mo_bit 5 = .ok (.iaload, 1) := by decide +kernel
theorem d_Mo_bit_6 : decode b_Mo_bit 6 = .ok (.bipush 7, 2) := by decide +kernel
theorem d_Mo_bit_8 : decode b_Mo_bit 8 = .ok (.iload_n 1, 1) := by decide +kernel
theorem d_Mo_bit_9 : decode b_Mo_bit 9 = .ok (.bipush 8, 2) := by decide +kernel
theorem d_Mo_bit_11 : decode b_Mo_bit 11 = .ok (.irem, 1) := by decide +kernel
theorem d_Mo_bit_12 : decode b_Mo_bit 12 = .ok (.isub, 1) := by decide +kernel
theorem d_Mo_bit_13 : decode b_Mo_bit 13 = .ok (.ishr, 1) := by decide +kernel
theorem d_Mo_bit_14 : decode b_Mo_bit 14 = .ok (.iconst 1, 1) := by decide +kernel
theorem d_Mo_bit_15 : decode b_Mo_bit 15 = .ok (.iand, 1) := by decide +kernel
theorem d_Mo_bit_16 : decode b_Mo_bit 16 = .ok (.ireturn, 1) := by decide +kernel
theorem d_Mo_multiply_0 : decode b_Mo_multiply 0 = .ok (.iconst 0, 1) := by decide +kernel
theorem d_Mo_multiply_1 : decode b_Mo_multiply 1 = .ok (.istore_n 1, 1) := by decide +kernel
theorem d_Mo_multiply_2 : decode b_Mo_multiply 2 = .ok (.iload_n 1, 1) := by decide +kernel
theorem d_Mo_multiply_3 : decode b_Mo_multiply 3 = .ok (.bipush 16, 2) := by decide +kernel
theorem d_Mo_multiply_5 : decode b_Mo_multiply 5 = .ok (.if_icmp .ge 16, 3) := by decide +kernel
theorem d_Mo_multiply_8 : decode b_Mo_multiply 8 = .ok (.aload_n 0, 1) := by decide +kernel
theorem d_Mo_multiply_9 : decode b_Mo_multiply 9 = .ok (.getfield 84, 3) := by decide +kernel
theorem d_Mo_multiply_12 : decode b_Mo_multiply 12 = .ok (.iload_n 1, 1) := by decide +kernel
theorem d_Mo_multiply_13 : decode b_Mo_multiply 13 = .ok (.iconst 0, 1) := by decide +kernel
theorem d_Mo_multiply_14 : decode b_Mo_multiply 14 = .ok (.iastore, 1) := by decide +kernel
theorem d_Mo_multiply_15 : decode b_Mo_multiply 15 = .ok (.iinc 1 1, 3) := by decide +kernel
theorem d_Mo_multiply_18 : decode b_Mo_multiply 18 = .ok (.goto (-16), 3) := by decide +kernel
theorem d_Mo_multiply_21 : decode b_Mo_multiply 21 = .ok (.bipush 127, 2) := by decide +kernel
theorem d_Mo_multiply_23 : decode b_Mo_multiply 23 = .ok (.istore_n 1, 1) := by decide +kernel
theorem d_Mo_multiply_24 : decode b_Mo_multiply 24 = .ok (.iload_n 1, 1) := by decide +kernel
theorem d_Mo_multiply_25 : decode b_Mo_multiply 25 = .ok (.ifCond .lt 132, 3) := by decide +kernel
theorem d_Mo_multiply_28 : decode b_Mo_multiply 28 = .ok (.aload_n 0, 1) := by decide +kernel
theorem d_Mo_multiply_29 : decode b_Mo_multiply 29 = .ok (.getfield 84, 3) := by decide +kernel
theorem d_Mo_multiply_32 : decode b_Mo_multiply 32 = .ok (.bipush 15, 2) := by decide +kernel
theorem d_Mo_multiply_34 : decode b_Mo_multiply 34 = .ok (.iaload, 1) := by decide +kernel
theorem d_Mo_multiply_35 : decode b_Mo_multiply 35 = .ok (.iconst 1, 1) := by decide +kernel
theorem d_Mo_multiply_36 : decode b_Mo_multiply 36 = .ok (.iand, 1) := by decide +kernel
theorem d_Mo_multiply_37 : decode b_Mo_multiply 37 = .ok (.istore_n 2, 1) := by decide +kernel
theorem d_Mo_multiply_38 : decode b_Mo_multiply 38 = .ok (.bipush 15, 2) := by decide +kernel
theorem d_Mo_multiply_40 : decode b_Mo_multiply 40 = .ok (.istore_n 3, 1) := by decide +kernel
theorem d_Mo_multiply_41 : decode b_Mo_multiply 41 = .ok (.iload_n 3, 1) := by decide +kernel
theorem d_Mo_multiply_42 : decode b_Mo_multiply 42 = .ok (.ifCond .le 37, 3) := by decide +kernel
theorem d_Mo_multiply_45 : decode b_Mo_multiply 45 = .ok (.aload_n 0, 1) := by decide +kernel
theorem d_Mo_multiply_46 : decode b_Mo_multiply 46 = .ok (.getfield 84, 3) := by decide +kernel
theorem d_Mo_multiply_49 : decode b_Mo_multiply 49 = .ok (.iload_n 3, 1) := by decide +kernel
theorem d_Mo_multiply_50 : decode b_Mo_multiply 50 = .ok (.aload_n 0, 1) := by decide +kernel
theorem d_Mo_multiply_51 : decode b_Mo_multiply 51 = .ok (.getfield 84, 3) := by decide +kernel
theorem d_Mo_multiply_54 : decode b_Mo_multiply 54 = .ok (.iload_n 3, 1) := by decide +kernel
theorem d_Mo_multiply_55 : decode b_Mo_multiply 55 = .ok (.iaload, 1) := by decide +kernel
theorem d_Mo_multiply_56 : decode b_Mo_multiply 56 = .ok (.iconst 1, 1) := by decide +kernel
theorem d_Mo_multiply_57 : decode b_Mo_multiply 57 = .ok (.ishr, 1) := by decide +kernel
theorem d_Mo_multiply_58 : decode b_Mo_multiply 58 = .ok (.aload_n 0, 1) := by decide +kernel
theorem d_Mo_multiply_59 : decode b_Mo_multiply 59 = .ok (.getfield 84, 3) := by decide +kernel
theorem d_Mo_multiply_62 : decode b_Mo_multiply 62 = .ok (.iload_n 3, 1) := by decide +kernel
theorem d_Mo_multiply_63 : decode b_Mo_multiply 63 = .ok (.iconst 1, 1) := by decide +kernel
theorem d_Mo_multiply_64 : decode b_Mo_multiply 64 = .ok (.isub, 1) := by decide +kernel
theorem d_Mo_multiply_65 : decode b_Mo_multiply 65 = .ok (.iaload, 1) := by decide +kernel
theorem d_Mo_multiply_66 : decode b_Mo_multiply 66 = .ok (.iconst 1, 1) := by decide +kernel
theorem d_Mo_multiply_67 : decode b_Mo_multiply 67 = .ok (.iand, 1) := by decide +kernel
theorem d_Mo_multiply_68 : decode b_Mo_multiply 68 = .ok (.bipush 7, 2) := by decide +kernel
theorem d_Mo_multiply_70 : decode b_Mo_multiply 70 = .ok (.ishl, 1) := by decide +kernel
theorem d_Mo_multiply_71 : decode b_Mo_multiply 71 = .ok (.ior, 1) := by decide +kernel
theorem d_Mo_multiply_72 : decode b_Mo_multiply 72 = .ok (.iastore, 1) := by decide +kernel
theorem d_Mo_multiply_73 : decode b_Mo_multiply 73 = .ok (.iinc 3 (-1), 3) := by decide +kernel
theorem d_Mo_multiply_76 : decode b_Mo_multiply 76 = .ok (.goto (-35), 3) := by decide +kernel
theorem d_Mo_multiply_79 : decode b_Mo_multiply 79 = .ok (.aload_n 0, 1) := by decide +kernel
theorem d_Mo_multiply_80 : decode b_Mo_multiply 80 = .ok (.getfield 84, 3) := by decide +kernel
theorem d_Mo_multiply_83 : decode b_Mo_multiply 83 = .ok (.iconst 0, 1) := by decide +kernel
theorem d_Mo_multiply_84 : decode b_Mo_multiply 84 = .ok (.aload_n 0, 1) := by decide +kernel
theorem d_Mo_multiply_85 : decode b_Mo_multiply 85 = .ok (.getfield 84, 3) := by decide +kernel
theorem d_Mo_multiply_88 : decode b_Mo_multiply 88 = .ok (.iconst 0, 1) := by decide +kernel
theorem d_Mo_multiply_89 : decode b_Mo_multiply 89 = .ok (.iaload, 1) := by decide +kernel
theorem d_Mo_multiply_90 : decode b_Mo_multiply 90 = .ok (.iconst 1, 1) := by decide +kernel
theorem d_Mo_multiply_91 : decode b_Mo_multiply 91 = .ok (.ishr, 1) := by decide +kernel
theorem d_Mo_multiply_92 : decode b_Mo_multiply 92 = .ok (.iload_n 2, 1) := by decide +kernel
theorem d_Mo_multiply_93 : decode b_Mo_multiply 93 = .ok (.iconst 1, 1) := by decide +kernel
theorem d_Mo_multiply_94 : decode b_Mo_multiply 94 = .ok (.if_icmp .ne 9, 3) := by decide +kernel
theorem d_Mo_multiply_97 : decode b_Mo_multiply 97 = .ok (.sipush 225, 3) := by decide +kernel
theorem d_Mo_multiply_100 : decode b_Mo_multiply 100 = .ok (.goto 4, 3) := by decide +kernel
theorem d_Mo_multiply_103 : decode b_Mo_multiply 103 = .ok (.iconst 0, 1) := by decide +kernel
theorem d_Mo_multiply_104 : decode b_Mo_multiply 104 = .ok (.ixor, 1) := by decide +kernel
theorem d_Mo_multiply_105 : decode b_Mo_multiply 105 = .ok (.iastore, 1) := by decide +kernel
theorem d_Mo_multiply_106 : decode b_Mo_multiply 106 = .ok (.iconst 0, 1) := by decide +kernel
theorem d_Mo_multiply_107 : decode b_Mo_multiply 107 = .ok (.istore_n 3, 1) := by decide +kernel
theorem d_Mo_multiply_108 : decode b_Mo_multiply 108 = .ok (.iload_n 3, 1) := by decide +kernel
theorem d_Mo_multiply_109 : decode b_Mo_multiply 109 = .ok (.bipush 16, 2) := by decide +kernel
theorem d_Mo_multiply_111 : decode b_Mo_multiply 111 = .ok (.if_icmp .ge 40, 3) := by decide +kernel
theorem d_Mo_multiply_114 : decode b_Mo_multiply 114 = .ok (.aload_n 0, 1) := by decide +kernel
theorem d_Mo_multiply_115 : decode b_Mo_multiply 115 = .ok (.getfield 81, 3) := by decide +kernel
theorem d_Mo_multiply_118 : decode b_Mo_multiply 118 = .ok (.iload_n 1, 1) := by decide +kernel
theorem d_Mo_multiply_119 : decode b_Mo_multiply 119 = .ok (.invokestatic 112, 3) := by decide +kernel
theorem d_Mo_multiply_122 : decode b_Mo_multiply 122 = .ok (.iconst 1, 1) := by decide +kernel
theorem d_Mo_multiply_123 : decode b_Mo_multiply 123 = .ok (.if_icmp .ne 28, 3) := by decide +kernel
theorem d_Mo_multiply_126 : decode b_Mo_multiply 126 = .ok (.aload_n 0, 1) := by decide +kernel
theorem d_Mo_multiply_127 : decode b_Mo_multiply 127 = .ok (.getfield 84, 3) := by decide +kernel
theorem d_Mo_multiply_130 : decode b_Mo_multiply 130 = .ok (.iload_n 3, 1) := by decide +kernel
theorem d_Mo_multiply_131 : decode b_Mo_multiply 131 = .ok (.aload_n 0, 1) := by decide +kernel
theorem d_Mo_multiply_132 : decode b_Mo_multiply 132 = .ok (.getfield 84, 3) := by decide +kernel
theorem d_Mo_multiply_135 : decode b_Mo_multiply 135 = .ok (.iload_n 3, 1) := by decide +kernel
theorem d_Mo_multiply_136 : decode b_Mo_multiply 136 = .ok (.iaload, 1) := by decide +kernel
theorem d_Mo_multiply_137 : decode b_Mo_multiply 137 = .ok (.aload_n 0, 1) := by decide +kernel
theorem d_Mo_multiply_138 : decode b_Mo_multiply 138 = .ok (.getfield 78, 3) := by decide +kernel
theorem d_Mo_multiply_141 : decode b_Mo_multiply 141 = .ok (.iload_n 3, 1) := by decide +kernel
theorem d_Mo_multiply_142 : decode b_Mo_multiply 142 = .ok (.iaload, 1) := by decide +kernel
theorem d_Mo_multiply_143 : decode b_Mo_multiply 143 = .ok (.ixor, 1) := by decide +kernel
theorem d_Mo_multiply_144 : decode b_Mo_multiply 144 = .ok (.iastore, 1) := by decide +kernel
theorem d_Mo_multiply_145 : decode b_Mo_multiply 145 = .ok (.iinc 3 1, 3) := by decide +kernel
theorem d_Mo_multiply_148 : decode b_Mo_multiply 148 = .ok (.goto (-40), 3) := by decide +kernel
theorem d_Mo_multiply_151 : decode b_Mo_multiply 151 = .ok (.iinc 1 (-1), 3) := by decide +kernel
theorem d_Mo_multiply_154 : decode b_Mo_multiply 154 = .ok (.goto (-130), 3) := by decide +kernel
theorem d_Mo_multiply_157 : decode b_Mo_multiply 157 = .ok (.iconst 0, 1) := by decide +kernel
theorem d_Mo_multiply_158 : decode b_Mo_multiply 158 = .ok (.istore_n 1, 1) := by decide +kernel
theorem d_Mo_multiply_159 : decode b_Mo_multiply 159 = .ok (.iload_n 1, 1) := by decide +kernel
theorem d_Mo_multiply_160 : decode b_Mo_multiply 160 = .ok (.bipush 16, 2) := by decide +kernel
theorem d_Mo_multiply_162 : decode b_Mo_multiply 162 = .ok (.if_icmp .ge 21, 3) := by decide +kernel
theorem d_Mo_multiply_165 : decode b_Mo_multiply 165 = .ok (.aload_n 0, 1) := by decide +kernel
theorem d_Mo_multiply_166 : decode b_Mo_multiply 166 = .ok (.getfield 78, 3) := by decide +kernel
theorem d_Mo_multiply_169 : decode b_Mo_multiply 169 = .ok (.iload_n 1, 1) := by decide +kernel
theorem d_Mo_multiply_170 : decode b_Mo_multiply 170 = .ok (.aload_n 0, 1) := by decide +kernel
theorem d_Mo_multiply_171 : decode b_Mo_multiply 171 = .ok (.getfield 84, 3) := by decide +kernel
theorem d_Mo_multiply_174 : decode b_Mo_multiply 174 = .ok (.iload_n 1, 1) := by decide +kernel
theorem d_Mo_multiply_175 : decode b_Mo_multiply 175 = .ok (.iaload, 1) := by decide +kernel
theorem d_Mo_multiply_176 : decode b_Mo_multiply 176 = .ok (.iastore, 1) := by decide +kernel
theorem d_Mo_multiply_177 : decode b_Mo_multiply 177 = .ok (.iinc 1 1, 3) := by decide +kernel
theorem d_Mo_multiply_180 : decode b_Mo_multiply 180 = .ok (.goto (-21), 3) := by decide +kernel
theorem d_Mo_multiply_183 : decode b_Mo_multiply 183 = .ok (.return_, 1) := by decide +kernel
theorem d_Mo_meet_0 : decode b_Mo_meet 0 = .ok (.aload_n 0, 1) := by decide +kernel
theorem d_Mo_meet_1 : decode b_Mo_meet 1 = .ok (.getfield 78, 3) := by decide +kernel
theorem d_Mo_meet_4 : decode b_Mo_meet 4 = .ok (.iload_n 1, 1) := by decide +kernel
theorem d_Mo_meet_5 : decode b_Mo_meet 5 = .ok (.bipush 16, 2) := by decide +kernel
theorem d_Mo_meet_7 : decode b_Mo_meet 7 = .ok (.irem, 1) := by decide +kernel
theorem d_Mo_meet_8 : decode b_Mo_meet 8 = .ok (.aload_n 0, 1) := by decide +kernel
theorem d_Mo_meet_9 : decode b_Mo_meet 9 = .ok (.getfield 78, 3) := by decide +kernel
theorem d_Mo_meet_12 : decode b_Mo_meet 12 = .ok (.iload_n 1, 1) := by decide +kernel
theorem d_Mo_meet_13 : decode b_Mo_meet 13 = .ok (.bipush 16, 2) := by decide +kernel
theorem d_Mo_meet_15 : decode b_Mo_meet 15 = .ok (.irem, 1) := by decide +kernel
theorem d_Mo_meet_16 : decode b_Mo_meet 16 = .ok (.iaload, 1) := by decide +kernel
theorem d_Mo_meet_17 : decode b_Mo_meet 17 = .ok (.iload_n 2, 1) := by decide +kernel
theorem d_Mo_meet_18 : decode b_Mo_meet 18 = .ok (.ixor, 1) := by decide +kernel
theorem d_Mo_meet_19 : decode b_Mo_meet 19 = .ok (.iastore, 1) := by decide +kernel
theorem d_Mo_meet_20 : decode b_Mo_meet 20 = .ok (.iload_n 1, 1) := by decide +kernel
theorem d_Mo_meet_21 : decode b_Mo_meet 21 = .ok (.bipush 16, 2) := by decide +kernel
theorem d_Mo_meet_23 : decode b_Mo_meet 23 = .ok (.irem, 1) := by decide +kernel
theorem d_Mo_meet_24 : decode b_Mo_meet 24 = .ok (.bipush 15, 2) := by decide +kernel
theorem d_Mo_meet_26 : decode b_Mo_meet 26 = .ok (.if_icmp .ne 7, 3) := by decide +kernel
theorem d_Mo_meet_29 : decode b_Mo_meet 29 = .ok (.aload_n 0, 1) := by decide +kernel
theorem d_Mo_meet_30 : decode b_Mo_meet 30 = .ok (.invokevirtual 116, 3) := by decide +kernel
theorem d_Mo_meet_33 : decode b_Mo_meet 33 = .ok (.return_, 1) := by decide +kernel
theorem d_Mo_byteOf_0 : decode b_Mo_byteOf 0 = .ok (.lload_n 0, 1) := by decide +kernel
theorem d_Mo_byteOf_1 : decode b_Mo_byteOf 1 = .ok (.bipush 56, 2) := by decide +kernel
theorem d_Mo_byteOf_3 : decode b_Mo_byteOf 3 = .ok (.bipush 8, 2) := by decide +kernel
theorem d_Mo_byteOf_5 : decode b_Mo_byteOf 5 = .ok (.iload_n 2, 1) := by decide +kernel
theorem d_Mo_byteOf_6 : decode b_Mo_byteOf 6 = .ok (.imul, 1) := by decide +kernel
theorem d_Mo_byteOf_7 : decode b_Mo_byteOf 7 = .ok (.isub, 1) := by decide +kernel
theorem d_Mo_byteOf_8 : decode b_Mo_byteOf 8 = .ok (.lshr, 1) := by decide +kernel
theorem d_Mo_byteOf_9 : decode b_Mo_byteOf 9 = .ok (.ldc2_w 98, 3) := by decide +kernel
theorem d_Mo_byteOf_12 : decode b_Mo_byteOf 12 = .ok (.land, 1) := by decide +kernel
theorem d_Mo_byteOf_13 : decode b_Mo_byteOf 13 = .ok (.l2i, 1) := by decide +kernel
theorem d_Mo_byteOf_14 : decode b_Mo_byteOf 14 = .ok (.ireturn, 1) := by decide +kernel
theorem d_Mo_makeSeal_0 : decode b_Mo_makeSeal 0 = .ok (.iconst 0, 1) := by decide +kernel
theorem d_Mo_makeSeal_1 : decode b_Mo_makeSeal 1 = .ok (.istore 5, 2) := by decide +kernel
theorem d_Mo_makeSeal_3 : decode b_Mo_makeSeal 3 = .ok (.iload 5, 2) := by decide +kernel
theorem d_Mo_makeSeal_5 : decode b_Mo_makeSeal 5 = .ok (.bipush 16, 2) := by decide +kernel
theorem d_Mo_makeSeal_7 : decode b_Mo_makeSeal 7 = .ok (.if_icmp .ge 25, 3) := by decide +kernel
theorem d_Mo_makeSeal_10 : decode b_Mo_makeSeal 10 = .ok (.aload_n 0, 1) := by decide +kernel
theorem d_Mo_makeSeal_11 : decode b_Mo_makeSeal 11 = .ok (.getfield 72, 3) := by decide +kernel
theorem d_Mo_makeSeal_14 : decode b_Mo_makeSeal 14 = .ok (.iload 5, 2) := by decide +kernel
theorem d_Mo_makeSeal_16 : decode b_Mo_makeSeal 16 = .ok (.iconst 0, 1) := by decide +kernel
theorem d_Mo_makeSeal_17 : decode b_Mo_makeSeal 17 = .ok (.iastore, 1) := by decide +kernel
theorem d_Mo_makeSeal_18 : decode b_Mo_makeSeal 18 = .ok (.aload_n 0, 1) := by decide +kernel
theorem d_Mo_makeSeal_19 : decode b_Mo_makeSeal 19 = .ok (.getfield 78, 3) := by decide +kernel
theorem d_Mo_makeSeal_22 : decode b_Mo_makeSeal 22 = .ok (.iload 5, 2) := by decide +kernel
theorem d_Mo_makeSeal_24 : decode b_Mo_makeSeal 24 = .ok (.iconst 0, 1) := by decide +kernel
theorem d_Mo_makeSeal_25 : decode b_Mo_makeSeal 25 = .ok (.iastore, 1) := by decide +kernel
theorem d_Mo_makeSeal_26 : decode b_Mo_makeSeal 26 = .ok (.iinc 5 1, 3) := by decide +kernel
theorem d_Mo_makeSeal_29 : decode b_Mo_makeSeal 29 = .ok (.goto (-26), 3) := by decide +kernel
theorem d_Mo_makeSeal_32 : decode b_Mo_makeSeal 32 = .ok (.aload_n 0, 1) := by decide +kernel
theorem d_Mo_makeSeal_33 : decode b_Mo_makeSeal 33 = .ok (.iload_n 1, 1) := by decide +kernel
theorem d_Mo_makeSeal_34 : decode b_Mo_makeSeal 34 = .ok (.invokevirtual 108, 3) := by decide +kernel
theorem d_Mo_makeSeal_37 : decode b_Mo_makeSeal 37 = .ok (.iconst 0, 1) := by decide +kernel
theorem d_Mo_makeSeal_38 : decode b_Mo_makeSeal 38 = .ok (.istore 5, 2) := by decide +kernel
theorem d_Mo_makeSeal_40 : decode b_Mo_makeSeal 40 = .ok (.iload 5, 2) := by decide +kernel
theorem d_Mo_makeSeal_42 : decode b_Mo_makeSeal 42 = .ok (.bipush 16, 2) := by decide +kernel
theorem d_Mo_makeSeal_44 : decode b_Mo_makeSeal 44 = .ok (.if_icmp .ge 23, 3) := by decide +kernel
theorem d_Mo_makeSeal_47 : decode b_Mo_makeSeal 47 = .ok (.aload_n 0, 1) := by decide +kernel
theorem d_Mo_makeSeal_48 : decode b_Mo_makeSeal 48 = .ok (.getfield 81, 3) := by decide +kernel
theorem d_Mo_makeSeal_51 : decode b_Mo_makeSeal 51 = .ok (.iload 5, 2) := by decide +kernel
theorem d_Mo_makeSeal_53 : decode b_Mo_makeSeal 53 = .ok (.aload_n 0, 1) := by decide +kernel
theorem d_Mo_makeSeal_54 : decode b_Mo_makeSeal 54 = .ok (.getfield 72, 3) := by decide +kernel
theorem d_Mo_makeSeal_57 : decode b_Mo_makeSeal 57 = .ok (.iload 5, 2) := by decide +kernel
theorem d_Mo_makeSeal_59 : decode b_Mo_makeSeal 59 = .ok (.iaload, 1) := by decide +kernel
theorem d_Mo_makeSeal_60 : decode b_Mo_makeSeal 60 = .ok (.iastore, 1) := by decide +kernel
theorem d_Mo_makeSeal_61 : decode b_Mo_makeSeal 61 = .ok (.iinc 5 1, 3) := by decide +kernel
theorem d_Mo_makeSeal_64 : decode b_Mo_makeSeal 64 = .ok (.goto (-24), 3) := by decide +kernel
theorem d_Mo_makeSeal_67 : decode b_Mo_makeSeal 67 = .ok (.aload_n 0, 1) := by decide +kernel
theorem d_Mo_makeSeal_68 : decode b_Mo_makeSeal 68 = .ok (.getfield 29, 3) := by decide +kernel
theorem d_Mo_makeSeal_71 : decode b_Mo_makeSeal 71 = .ok (.iload_n 1, 1) := by decide +kernel
theorem d_Mo_makeSeal_72 : decode b_Mo_makeSeal 72 = .ok (.baload, 1) := by decide +kernel
theorem d_Mo_makeSeal_73 : decode b_Mo_makeSeal 73 = .ok (.ifCond .eq 8, 3) := by decide +kernel
theorem d_Mo_makeSeal_76 : decode b_Mo_makeSeal 76 = .ok (.bipush 12, 2) := by decide +kernel
theorem d_Mo_makeSeal_78 : decode b_Mo_makeSeal 78 = .ok (.goto 5, 3) := by decide +kernel
theorem d_Mo_makeSeal_81 : decode b_Mo_makeSeal 81 = .ok (.bipush 8, 2) := by decide +kernel
theorem d_Mo_makeSeal_83 : decode b_Mo_makeSeal 83 = .ok (.istore 5, 2) := by decide +kernel
theorem d_Mo_makeSeal_85 : decode b_Mo_makeSeal 85 = .ok (.iconst 0, 1) := by decide +kernel
theorem d_Mo_makeSeal_86 : decode b_Mo_makeSeal 86 = .ok (.istore 6, 2) := by decide +kernel
theorem d_Mo_makeSeal_88 : decode b_Mo_makeSeal 88 = .ok (.iload 6, 2) := by decide +kernel
theorem d_Mo_makeSeal_90 : decode b_Mo_makeSeal 90 = .ok (.bipush 16, 2) := by decide +kernel
theorem d_Mo_makeSeal_92 : decode b_Mo_makeSeal 92 = .ok (.if_icmp .ge 81, 3) := by decide +kernel
theorem d_Mo_makeSeal_95 : decode b_Mo_makeSeal 95 = .ok (.iload 6, 2) := by decide +kernel
theorem d_Mo_makeSeal_97 : decode b_Mo_makeSeal 97 = .ok (.iconst 4, 1) := by decide +kernel
theorem d_Mo_makeSeal_98 : decode b_Mo_makeSeal 98 = .ok (.if_icmp .ge 25, 3) := by decide +kernel
theorem d_Mo_makeSeal_101 : decode b_Mo_makeSeal 101 = .ok (.aload_n 0, 1) := by decide +kernel
theorem d_Mo_makeSeal_102 : decode b_Mo_makeSeal 102 = .ok (.getfield 17, 3) := by decide +kernel
theorem d_Mo_makeSeal_105 : decode b_Mo_makeSeal 105 = .ok (.iload_n 1, 1) := by decide +kernel
theorem d_Mo_makeSeal_106 : decode b_Mo_makeSeal 106 = .ok (.iaload, 1) := by decide +kernel
theorem d_Mo_makeSeal_107 : decode b_Mo_makeSeal 107 = .ok (.bipush 24, 2) := by decide +kernel
theorem d_Mo_makeSeal_109 : decode b_Mo_makeSeal 109 = .ok (.bipush 8, 2) := by decide +kernel
theorem d_Mo_makeSeal_111 : decode b_Mo_makeSeal 111 = .ok (.iload 6, 2) := by decide +kernel
theorem d_Mo_makeSeal_113 : decode b_Mo_makeSeal 113 = .ok (.imul, 1) := by decide +kernel
theorem d_Mo_makeSeal_114 : decode b_Mo_makeSeal 114 = .ok (.isub, 1) := by decide +kernel
theorem d_Mo_makeSeal_115 : decode b_Mo_makeSeal 115 = .ok (.ishr, 1) := by decide +kernel
theorem d_Mo_makeSeal_116 : decode b_Mo_makeSeal 116 = .ok (.sipush 255, 3) := by decide +kernel
theorem d_Mo_makeSeal_119 : decode b_Mo_makeSeal 119 = .ok (.iand, 1) := by decide +kernel
theorem d_Mo_makeSeal_120 : decode b_Mo_makeSeal 120 = .ok (.goto 37, 3) := by decide +kernel
theorem d_Mo_makeSeal_123 : decode b_Mo_makeSeal 123 = .ok (.iload 6, 2) := by decide +kernel
theorem d_Mo_makeSeal_125 : decode b_Mo_makeSeal 125 = .ok (.iload 5, 2) := by decide +kernel
theorem d_Mo_makeSeal_127 : decode b_Mo_makeSeal 127 = .ok (.if_icmp .ge 29, 3) := by decide +kernel
theorem d_Mo_makeSeal_130 : decode b_Mo_makeSeal 130 = .ok (.lload_n 2, 1) := by decide +kernel
theorem d_Mo_makeSeal_131 : decode b_Mo_makeSeal 131 = .ok (.iload 6, 2) := by decide +kernel
theorem d_Mo_makeSeal_133 : decode b_Mo_makeSeal 133 = .ok (.iconst 4, 1) := by decide +kernel
theorem d_Mo_makeSeal_134 : decode b_Mo_makeSeal 134 = .ok (.isub, 1) := by decide +kernel
theorem d_Mo_makeSeal_135 : decode b_Mo_makeSeal 135 = .ok (.aload_n 0, 1) := by decide +kernel
theorem d_Mo_makeSeal_136 : decode b_Mo_makeSeal 136 = .ok (.getfield 29, 3) := by decide +kernel
theorem d_Mo_makeSeal_139 : decode b_Mo_makeSeal 139 = .ok (.iload_n 1, 1) := by decide +kernel
theorem d_Mo_makeSeal_140 : decode b_Mo_makeSeal 140 = .ok (.baload, 1) := by decide +kernel
theorem d_Mo_makeSeal_141 : decode b_Mo_makeSeal 141 = .ok (.ifCond .eq 7, 3) := by decide +kernel
theorem d_Mo_makeSeal_144 : decode b_Mo_makeSeal 144 = .ok (.iconst 0, 1) := by decide +kernel
theorem d_Mo_makeSeal_145 : decode b_Mo_makeSeal 145 = .ok (.goto 4, 3) := by decide +kernel
theorem d_Mo_makeSeal_148 : decode b_Mo_makeSeal 148 = .ok (.iconst 4, 1) := by decide +kernel
theorem d_Mo_makeSeal_149 : decode b_Mo_makeSeal 149 = .ok (.iadd, 1) := by decide +kernel
theorem d_Mo_makeSeal_150 : decode b_Mo_makeSeal 150 = .ok (.invokestatic 119, 3) := by decide +kernel
theorem d_Mo_makeSeal_153 : decode b_Mo_makeSeal 153 = .ok (.goto 4, 3) := by decide +kernel
theorem d_Mo_makeSeal_156 : decode b_Mo_makeSeal 156 = .ok (.iconst 0, 1) := by decide +kernel

theorem d_Mo_give_51 : decode b_Mo_give 51 = .ok (.if_icmp .ge 62, 3) := by decide +kernel
theorem d_Mo_give_54 : decode b_Mo_give 54 = .ok (.aload_n 0, 1) := by decide +kernel
theorem d_Mo_give_55 : decode b_Mo_give 55 = .ok (.getfield 51, 3) := by decide +kernel
theorem d_Mo_give_58 : decode b_Mo_give 58 = .ok (.sipush 1100, 3) := by decide +kernel
theorem d_Mo_give_61 : decode b_Mo_give 61 = .ok (.iload_n 1, 1) := by decide +kernel
theorem d_Mo_give_62 : decode b_Mo_give 62 = .ok (.imul, 1) := by decide +kernel
theorem d_Mo_give_63 : decode b_Mo_give 63 = .ok (.iload 5, 2) := by decide +kernel
theorem d_Mo_give_65 : decode b_Mo_give 65 = .ok (.iadd, 1) := by decide +kernel
theorem d_Mo_give_66 : decode b_Mo_give 66 = .ok (.laload, 1) := by decide +kernel
theorem d_Mo_give_67 : decode b_Mo_give 67 = .ok (.lstore 6, 2) := by decide +kernel
theorem d_Mo_give_69 : decode b_Mo_give 69 = .ok (.lload 6, 2) := by decide +kernel
theorem d_Mo_give_71 : decode b_Mo_give 71 = .ok (.aload_n 0, 1) := by decide +kernel
theorem d_Mo_give_72 : decode b_Mo_give 72 = .ok (.getfield 39, 3) := by decide +kernel
theorem d_Mo_give_75 : decode b_Mo_give 75 = .ok (.iload_n 1, 1) := by decide +kernel
theorem d_Mo_give_76 : decode b_Mo_give 76 = .ok (.laload, 1) := by decide +kernel
theorem d_Mo_give_77 : decode b_Mo_give 77 = .ok (.aload_n 0, 1) := by decide +kernel
theorem d_Mo_give_78 : decode b_Mo_give 78 = .ok (.getfield 26, 3) := by decide +kernel
theorem d_Mo_give_81 : decode b_Mo_give 81 = .ok (.iload_n 1, 1) := by decide +kernel
theorem d_Mo_give_82 : decode b_Mo_give 82 = .ok (.iaload, 1) := by decide +kernel
theorem d_Mo_give_83 : decode b_Mo_give 83 = .ok (.i2l, 1) := by decide +kernel
theorem d_Mo_give_84 : decode b_Mo_give 84 = .ok (.lsub, 1) := by decide +kernel
theorem d_Mo_give_85 : decode b_Mo_give 85 = .ok (.lcmp, 1) := by decide +kernel
theorem d_Mo_give_86 : decode b_Mo_give 86 = .ok (.ifCond .le 21, 3) := by decide +kernel
theorem d_Mo_give_89 : decode b_Mo_give 89 = .ok (.aload_n 0, 1) := by decide +kernel
theorem d_Mo_give_90 : decode b_Mo_give 90 = .ok (.getfield 51, 3) := by decide +kernel
theorem d_Mo_give_93 : decode b_Mo_give 93 = .ok (.sipush 1100, 3) := by decide +kernel
theorem d_Mo_give_96 : decode b_Mo_give 96 = .ok (.iload_n 1, 1) := by decide +kernel
theorem d_Mo_give_97 : decode b_Mo_give 97 = .ok (.imul, 1) := by decide +kernel
theorem d_Mo_give_98 : decode b_Mo_give 98 = .ok (.iload 4, 2) := by decide +kernel
theorem d_Mo_give_100 : decode b_Mo_give 100 = .ok (.iadd, 1) := by decide +kernel
theorem d_Mo_give_101 : decode b_Mo_give 101 = .ok (.lload 6, 2) := by decide +kernel
theorem d_Mo_give_103 : decode b_Mo_give 103 = .ok (.lastore, 1) := by decide +kernel
theorem d_Mo_give_104 : decode b_Mo_give 104 = .ok (.iinc 4 1, 3) := by decide +kernel
theorem d_Mo_give_107 : decode b_Mo_give 107 = .ok (.iinc 5 1, 3) := by decide +kernel
theorem d_Mo_give_110 : decode b_Mo_give 110 = .ok (.goto (-67), 3) := by decide +kernel
theorem d_Mo_give_113 : decode b_Mo_give 113 = .ok (.aload_n 0, 1) := by decide +kernel
theorem d_Mo_give_114 : decode b_Mo_give 114 = .ok (.getfield 51, 3) := by decide +kernel
theorem d_Mo_give_117 : decode b_Mo_give 117 = .ok (.sipush 1100, 3) := by decide +kernel
theorem d_Mo_give_120 : decode b_Mo_give 120 = .ok (.iload_n 1, 1) := by decide +kernel
theorem d_Mo_give_121 : decode b_Mo_give 121 = .ok (.imul, 1) := by decide +kernel
theorem d_Mo_give_122 : decode b_Mo_give 122 = .ok (.iload 4, 2) := by decide +kernel
theorem d_Mo_give_124 : decode b_Mo_give 124 = .ok (.iadd, 1) := by decide +kernel
theorem d_Mo_give_125 : decode b_Mo_give 125 = .ok (.lload_n 2, 1) := by decide +kernel
theorem d_Mo_give_126 : decode b_Mo_give 126 = .ok (.lastore, 1) := by decide +kernel
theorem d_Mo_give_127 : decode b_Mo_give 127 = .ok (.aload_n 0, 1) := by decide +kernel
theorem d_Mo_give_128 : decode b_Mo_give 128 = .ok (.getfield 54, 3) := by decide +kernel
theorem d_Mo_give_131 : decode b_Mo_give 131 = .ok (.iload_n 1, 1) := by decide +kernel
theorem d_Mo_give_132 : decode b_Mo_give 132 = .ok (.iload 4, 2) := by decide +kernel
theorem d_Mo_give_134 : decode b_Mo_give 134 = .ok (.iconst 1, 1) := by decide +kernel
theorem d_Mo_give_135 : decode b_Mo_give 135 = .ok (.iadd, 1) := by decide +kernel
theorem d_Mo_give_136 : decode b_Mo_give 136 = .ok (.iastore, 1) := by decide +kernel
theorem d_Mo_give_137 : decode b_Mo_give 137 = .ok (.return_, 1) := by decide +kernel
theorem d_Mo_isSealed_0 : decode b_Mo_isSealed 0 = .ok (.aload_n 0, 1) := by decide +kernel
theorem d_Mo_isSealed_1 : decode b_Mo_isSealed 1 = .ok (.iload_n 1, 1) := by decide +kernel
theorem d_Mo_isSealed_2 : decode b_Mo_isSealed 2 = .ok (.lload_n 2, 1) := by decide +kernel
theorem d_Mo_isSealed_3 : decode b_Mo_isSealed 3 = .ok (.iload 4, 2) := by decide +kernel
theorem d_Mo_isSealed_5 : decode b_Mo_isSealed 5 = .ok (.invokevirtual 160, 3) := by decide +kernel
theorem d_Mo_isSealed_8 : decode b_Mo_isSealed 8 = .ok (.iconst 1, 1) := by decide +kernel
theorem d_Mo_isSealed_9 : decode b_Mo_isSealed 9 = .ok (.istore 5, 2) := by decide +kernel
theorem d_Mo_isSealed_11 : decode b_Mo_isSealed 11 = .ok (.iconst 0, 1) := by decide +kernel
theorem d_Mo_isSealed_12 : decode b_Mo_isSealed 12 = .ok (.istore 6, 2) := by decide +kernel
theorem d_Mo_isSealed_14 : decode b_Mo_isSealed 14 = .ok (.iload 6, 2) := by decide +kernel
theorem d_Mo_isSealed_16 : decode b_Mo_isSealed 16 = .ok (.bipush 16, 2) := by decide +kernel
theorem d_Mo_isSealed_18 : decode b_Mo_isSealed 18 = .ok (.if_icmp .ge 44, 3) := by decide +kernel
theorem d_Mo_isSealed_21 : decode b_Mo_isSealed 21 = .ok (.iload 5, 2) := by decide +kernel
theorem d_Mo_isSealed_23 : decode b_Mo_isSealed 23 = .ok (.ifCond .eq 30, 3) := by decide +kernel
theorem d_Mo_isSealed_26 : decode b_Mo_isSealed 26 = .ok (.aload_n 0, 1) := by decide +kernel
theorem d_Mo_isSealed_27 : decode b_Mo_isSealed 27 = .ok (.getfield 87, 3) := by decide +kernel
theorem d_Mo_isSealed_30 : decode b_Mo_isSealed 30 = .ok (.iload 6, 2) := by decide +kernel
theorem d_Mo_isSealed_32 : decode b_Mo_isSealed 32 = .ok (.iaload, 1) := by decide +kernel
theorem d_Mo_isSealed_33 : decode b_Mo_isSealed 33 = .ok (.aload_n 0, 1) := by decide +kernel
theorem d_Mo_isSealed_34 : decode b_Mo_isSealed 34 = .ok (.getfield 60, 3) := by decide +kernel
theorem d_Mo_isSealed_37 : decode b_Mo_isSealed 37 = .ok (.bipush 16, 2) := by decide +kernel
theorem d_Mo_isSealed_39 : decode b_Mo_isSealed 39 = .ok (.iload 4, 2) := by decide +kernel
theorem d_Mo_isSealed_41 : decode b_Mo_isSealed 41 = .ok (.iadd, 1) := by decide +kernel
theorem d_Mo_isSealed_42 : decode b_Mo_isSealed 42 = .ok (.iload 6, 2) := by decide +kernel
theorem d_Mo_isSealed_44 : decode b_Mo_isSealed 44 = .ok (.iadd, 1) := by decide +kernel
theorem d_Mo_isSealed_45 : decode b_Mo_isSealed 45 = .ok (.iaload, 1) := by decide +kernel
theorem d_Mo_isSealed_46 : decode b_Mo_isSealed 46 = .ok (.if_icmp .ne 7, 3) := by decide +kernel
theorem d_Mo_isSealed_49 : decode b_Mo_isSealed 49 = .ok (.iconst 1, 1) := by decide +kernel
theorem d_Mo_isSealed_50 : decode b_Mo_isSealed 50 = .ok (.goto 4, 3) := by decide +kernel
theorem d_Mo_isSealed_53 : decode b_Mo_isSealed 53 = .ok (.iconst 0, 1) := by decide +kernel
theorem d_Mo_isSealed_54 : decode b_Mo_isSealed 54 = .ok (.istore 5, 2) := by decide +kernel
theorem d_Mo_isSealed_56 : decode b_Mo_isSealed 56 = .ok (.iinc 6 1, 3) := by decide +kernel
theorem d_Mo_isSealed_59 : decode b_Mo_isSealed 59 = .ok (.goto (-45), 3) := by decide +kernel
theorem d_Mo_isSealed_62 : decode b_Mo_isSealed 62 = .ok (.iload 5, 2) := by decide +kernel
theorem d_Mo_isSealed_64 : decode b_Mo_isSealed 64 = .ok (.ireturn, 1) := by decide +kernel
theorem d_Mo_takeBody_0 : decode b_Mo_takeBody 0 = .ok (.aload_n 0, 1) := by decide +kernel
theorem d_Mo_takeBody_1 : decode b_Mo_takeBody 1 = .ok (.iload_n 1, 1) := by decide +kernel
theorem d_Mo_takeBody_2 : decode b_Mo_takeBody 2 = .ok (.iload_n 2, 1) := by decide +kernel
theorem d_Mo_takeBody_3 : decode b_Mo_takeBody 3 = .ok (.invokevirtual 157, 3) := by decide +kernel
theorem d_Mo_takeBody_6 : decode b_Mo_takeBody 6 = .ok (.aload_n 0, 1) := by decide +kernel
theorem d_Mo_takeBody_7 : decode b_Mo_takeBody 7 = .ok (.getfield 60, 3) := by decide +kernel
theorem d_Mo_takeBody_10 : decode b_Mo_takeBody 10 = .ok (.bipush 16, 2) := by decide +kernel
theorem d_Mo_takeBody_12 : decode b_Mo_takeBody 12 = .ok (.iload_n 2, 1) := by decide +kernel
theorem d_Mo_takeBody_13 : decode b_Mo_takeBody 13 = .ok (.iadd, 1) := by decide +kernel
theorem d_Mo_takeBody_14 : decode b_Mo_takeBody 14 = .ok (.iconst 2, 1) := by decide +kernel
theorem d_Mo_takeBody_15 : decode b_Mo_takeBody 15 = .ok (.isub, 1) := by decide +kernel
theorem d_Mo_takeBody_16 : decode b_Mo_takeBody 16 = .ok (.iaload, 1) := by decide +kernel
theorem d_Mo_takeBody_17 : decode b_Mo_takeBody 17 = .ok (.istore_n 3, 1) := by decide +kernel
theorem d_Mo_takeBody_18 : decode b_Mo_takeBody 18 = .ok (.aload_n 0, 1) := by decide +kernel
theorem d_Mo_takeBody_19 : decode b_Mo_takeBody 19 = .ok (.getfield 60, 3) := by decide +kernel
theorem d_Mo_takeBody_22 : decode b_Mo_takeBody 22 = .ok (.bipush 16, 2) := by decide +kernel
theorem d_Mo_takeBody_24 : decode b_Mo_takeBody 24 = .ok (.iload_n 2, 1) := by decide +kernel
theorem d_Mo_takeBody_25 : decode b_Mo_takeBody 25 = .ok (.iadd, 1) := by decide +kernel
theorem d_Mo_takeBody_26 : decode b_Mo_takeBody 26 = .ok (.iconst 1, 1) := by decide +kernel
theorem d_Mo_takeBody_27 : decode b_Mo_takeBody 27 = .ok (.isub, 1) := by decide +kernel
theorem d_Mo_takeBody_28 : decode b_Mo_takeBody 28 = .ok (.iaload, 1) := by decide +kernel
theorem d_Mo_takeBody_29 : decode b_Mo_takeBody 29 = .ok (.istore 4, 2) := by decide +kernel
theorem d_Mo_takeBody_31 : decode b_Mo_takeBody 31 = .ok (.iload_n 3, 1) := by decide +kernel
theorem d_Mo_takeBody_32 : decode b_Mo_takeBody 32 = .ok (.iload_n 2, 1) := by decide +kernel
theorem d_Mo_takeBody_33 : decode b_Mo_takeBody 33 = .ok (.iconst 2, 1) := by decide +kernel
theorem d_Mo_takeBody_34 : decode b_Mo_takeBody 34 = .ok (.isub, 1) := by decide +kernel
theorem d_Mo_takeBody_35 : decode b_Mo_takeBody 35 = .ok (.if_icmp .gt 7, 3) := by decide +kernel
theorem d_Mo_takeBody_38 : decode b_Mo_takeBody 38 = .ok (.iconst 1, 1) := by decide +kernel
theorem d_Mo_takeBody_39 : decode b_Mo_takeBody 39 = .ok (.goto 4, 3) := by decide +kernel
theorem d_Mo_takeBody_42 : decode b_Mo_takeBody 42 = .ok (.iconst 0, 1) := by decide +kernel
theorem d_Mo_takeBody_43 : decode b_Mo_takeBody 43 = .ok (.istore 5, 2) := by decide +kernel
theorem d_Mo_takeBody_45 : decode b_Mo_takeBody 45 = .ok (.iconst 1, 1) := by decide +kernel
theorem d_Mo_takeBody_46 : decode b_Mo_takeBody 46 = .ok (.istore 6, 2) := by decide +kernel
theorem d_Mo_takeBody_48 : decode b_Mo_takeBody 48 = .ok (.iload 6, 2) := by decide +kernel
theorem d_Mo_takeBody_50 : decode b_Mo_takeBody 50 = .ok (.iload_n 3, 1) := by decide +kernel
theorem d_Mo_takeBody_51 : decode b_Mo_takeBody 51 = .ok (.if_icmp .gt 44, 3) := by decide +kernel
theorem d_Mo_takeBody_54 : decode b_Mo_takeBody 54 = .ok (.iload 5, 2) := by decide +kernel
theorem d_Mo_takeBody_56 : decode b_Mo_takeBody 56 = .ok (.ifCond .eq 39, 3) := by decide +kernel
theorem d_Mo_takeBody_59 : decode b_Mo_takeBody 59 = .ok (.aload_n 0, 1) := by decide +kernel
theorem d_Mo_takeBody_60 : decode b_Mo_takeBody 60 = .ok (.getfield 60, 3) := by decide +kernel
theorem d_Mo_takeBody_63 : decode b_Mo_takeBody 63 = .ok (.bipush 16, 2) := by decide +kernel
theorem d_Mo_takeBody_65 : decode b_Mo_takeBody 65 = .ok (.iload_n 2, 1) := by decide +kernel
theorem d_Mo_takeBody_66 : decode b_Mo_takeBody 66 = .ok (.iadd, 1) := by decide +kernel
theorem d_Mo_takeBody_67 : decode b_Mo_takeBody 67 = .ok (.iconst 2, 1) := by decide +kernel
theorem d_Mo_takeBody_68 : decode b_Mo_takeBody 68 = .ok (.isub, 1) := by decide +kernel
theorem d_Mo_takeBody_69 : decode b_Mo_takeBody 69 = .ok (.iload_n 3, 1) := by decide +kernel
theorem d_Mo_takeBody_70 : decode b_Mo_takeBody 70 = .ok (.isub, 1) := by decide +kernel
theorem d_Mo_takeBody_71 : decode b_Mo_takeBody 71 = .ok (.iload 6, 2) := by decide +kernel
theorem d_Mo_takeBody_73 : decode b_Mo_takeBody 73 = .ok (.iadd, 1) := by decide +kernel
theorem d_Mo_takeBody_74 : decode b_Mo_takeBody 74 = .ok (.iconst 1, 1) := by decide +kernel
theorem d_Mo_takeBody_75 : decode b_Mo_takeBody 75 = .ok (.isub, 1) := by decide +kernel
theorem d_Mo_takeBody_76 : decode b_Mo_takeBody 76 = .ok (.iaload, 1) := by decide +kernel
theorem d_Mo_takeBody_77 : decode b_Mo_takeBody 77 = .ok (.iload 6, 2) := by decide +kernel
theorem d_Mo_takeBody_79 : decode b_Mo_takeBody 79 = .ok (.if_icmp .ne 7, 3) := by decide +kernel
theorem d_Mo_takeBody_82 : decode b_Mo_takeBody 82 = .ok (.iconst 1, 1) := by decide +kernel
theorem d_Mo_takeBody_83 : decode b_Mo_takeBody 83 = .ok (.goto 4, 3) := by decide +kernel
theorem d_Mo_takeBody_86 : decode b_Mo_takeBody 86 = .ok (.iconst 0, 1) := by decide +kernel
theorem d_Mo_takeBody_87 : decode b_Mo_takeBody 87 = .ok (.istore 5, 2) := by decide +kernel
theorem d_Mo_takeBody_89 : decode b_Mo_takeBody 89 = .ok (.iinc 6 1, 3) := by decide +kernel
theorem d_Mo_takeBody_92 : decode b_Mo_takeBody 92 = .ok (.goto (-44), 3) := by decide +kernel
theorem d_Mo_takeBody_95 : decode b_Mo_takeBody 95 = .ok (.aload_n 0, 1) := by decide +kernel
theorem d_Mo_takeBody_96 : decode b_Mo_takeBody 96 = .ok (.iconst 0, 1) := by decide +kernel
theorem d_Mo_takeBody_97 : decode b_Mo_takeBody 97 = .ok (.putfield 168, 3) := by decide +kernel
theorem d_Mo_takeBody_100 : decode b_Mo_takeBody 100 = .ok (.iload 5, 2) := by decide +kernel
theorem d_Mo_takeBody_102 : decode b_Mo_takeBody 102 = .ok (.ifCond .ne 8, 3) := by decide +kernel
theorem d_Mo_takeBody_105 : decode b_Mo_takeBody 105 = .ok (.bipush (-5), 2) := by decide +kernel
theorem d_Mo_takeBody_107 : decode b_Mo_takeBody 107 = .ok (.goto 17, 3) := by decide +kernel
theorem d_Mo_takeBody_110 : decode b_Mo_takeBody 110 = .ok (.iload 4, 2) := by decide +kernel
theorem d_Mo_takeBody_112 : decode b_Mo_takeBody 112 = .ok (.bipush 59, 2) := by decide +kernel
theorem d_Mo_takeBody_114 : decode b_Mo_takeBody 114 = .ok (.if_icmp .ne 8, 3) := by decide +kernel
theorem d_Mo_takeBody_117 : decode b_Mo_takeBody 117 = .ok (.bipush (-6), 2) := by decide +kernel
theorem d_Mo_takeBody_119 : decode b_Mo_takeBody 119 = .ok (.goto 5, 3) := by decide +kernel
theorem d_Mo_takeBody_122 : decode b_Mo_takeBody 122 = .ok (.iload 4, 2) := by decide +kernel
theorem d_Mo_takeBody_124 : decode b_Mo_takeBody 124 = .ok (.istore 6, 2) := by decide +kernel
theorem d_Mo_takeBody_126 : decode b_Mo_takeBody 126 = .ok (.iload 6, 2) := by decide +kernel
theorem d_Mo_takeBody_128 : decode b_Mo_takeBody 128 = .ok (.ifCond .lt 47, 3) := by decide +kernel
theorem d_Mo_takeBody_131 : decode b_Mo_takeBody 131 = .ok (.aload_n 0, 1) := by decide +kernel
theorem d_Mo_takeBody_132 : decode b_Mo_takeBody 132 = .ok (.iload_n 2, 1) := by decide +kernel
theorem d_Mo_takeBody_133 : decode b_Mo_takeBody 133 = .ok (.iconst 2, 1) := by decide +kernel
theorem d_Mo_takeBody_134 : decode b_Mo_takeBody 134 = .ok (.isub, 1) := by decide +kernel
theorem d_Mo_takeBody_135 : decode b_Mo_takeBody 135 = .ok (.iload_n 3, 1) := by decide +kernel
theorem d_Mo_takeBody_136 : decode b_Mo_takeBody 136 = .ok (.isub, 1) := by decide +kernel
theorem d_Mo_takeBody_137 : decode b_Mo_takeBody 137 = .ok (.putfield 168, 3) := by decide +kernel
theorem d_Mo_takeBody_140 : decode b_Mo_takeBody 140 = .ok (.iconst 0, 1) := by decide +kernel
theorem d_Mo_takeBody_141 : decode b_Mo_takeBody 141 = .ok (.istore 7, 2) := by decide +kernel
theorem d_Mo_takeBody_143 : decode b_Mo_takeBody 143 = .ok (.iload 7, 2) := by decide +kernel
theorem d_Mo_takeBody_145 : decode b_Mo_takeBody 145 = .ok (.aload_n 0, 1) := by decide +kernel
theorem d_Mo_takeBody_146 : decode b_Mo_takeBody 146 = .ok (.getfield 168, 3) := by decide +kernel
theorem d_Mo_takeBody_149 : decode b_Mo_takeBody 149 = .ok (.if_icmp .ge 26, 3) := by decide +kernel
theorem d_Mo_takeBody_152 : decode b_Mo_takeBody 152 = .ok (.aload_n 0, 1) := by decide +kernel
theorem d_Mo_takeBody_153 : decode b_Mo_takeBody 153 = .ok (.getfield 69, 3) := by decide +kernel
theorem d_Mo_takeBody_156 : decode b_Mo_takeBody 156 = .ok (.iload 7, 2) := by decide +kernel
theorem d_Mo_takeBody_158 : decode b_Mo_takeBody 158 = .ok (.aload_n 0, 1) := by decide +kernel
theorem d_Mo_takeBody_159 : decode b_Mo_takeBody 159 = .ok (.getfield 60, 3) := by decide +kernel
theorem d_Mo_takeBody_162 : decode b_Mo_takeBody 162 = .ok (.bipush 16, 2) := by decide +kernel
theorem d_Mo_takeBody_164 : decode b_Mo_takeBody 164 = .ok (.iload 7, 2) := by decide +kernel
theorem d_Mo_takeBody_166 : decode b_Mo_takeBody 166 = .ok (.iadd, 1) := by decide +kernel
theorem d_Mo_takeBody_167 : decode b_Mo_takeBody 167 = .ok (.iaload, 1) := by decide +kernel
theorem d_Mo_takeBody_168 : decode b_Mo_takeBody 168 = .ok (.iastore, 1) := by decide +kernel
theorem d_Mo_takeBody_169 : decode b_Mo_takeBody 169 = .ok (.iinc 7 1, 3) := by decide +kernel
theorem d_Mo_takeBody_172 : decode b_Mo_takeBody 172 = .ok (.goto (-29), 3) := by decide +kernel
theorem d_Mo_takeBody_175 : decode b_Mo_takeBody 175 = .ok (.aload_n 0, 1) := by decide +kernel
theorem d_Mo_takeBody_176 : decode b_Mo_takeBody 176 = .ok (.iload_n 1, 1) := by decide +kernel
theorem d_Mo_takeBody_177 : decode b_Mo_takeBody 177 = .ok (.iload_n 2, 1) := by decide +kernel
theorem d_Mo_takeBody_178 : decode b_Mo_takeBody 178 = .ok (.invokevirtual 157, 3) := by decide +kernel
theorem d_Mo_takeBody_181 : decode b_Mo_takeBody 181 = .ok (.iload 6, 2) := by decide +kernel
theorem d_Mo_takeBody_183 : decode b_Mo_takeBody 183 = .ok (.ireturn, 1) := by decide +kernel
theorem d_Mo_open_0 : decode b_Mo_open 0 = .ok (.aload_n 0, 1) := by decide +kernel
theorem d_Mo_open_1 : decode b_Mo_open 1 = .ok (.iconst 0, 1) := by decide +kernel
theorem d_Mo_open_2 : decode b_Mo_open 2 = .ok (.putfield 94, 3) := by decide +kernel
theorem d_Mo_open_5 : decode b_Mo_open 5 = .ok (.aload_n 0, 1) := by decide +kernel
theorem d_Mo_open_6 : decode b_Mo_open 6 = .ok (.getfield 151, 3) := by decide +kernel
theorem d_Mo_open_9 : decode b_Mo_open 9 = .ok (.bipush 36, 2) := by decide +kernel
theorem d_Mo_open_11 : decode b_Mo_open 11 = .ok (.if_icmp .lt 12, 3) := by decide +kernel
theorem d_Mo_open_14 : decode b_Mo_open 14 = .ok (.aload_n 0, 1) := by decide +kernel
theorem d_Mo_open_15 : decode b_Mo_open 15 = .ok (.getfield 151, 3) := by decide +kernel
theorem d_Mo_open_18 : decode b_Mo_open 18 = .ok (.iconst 4, 1) := by decide +kernel
theorem d_Mo_open_19 : decode b_Mo_open 19 = .ok (.irem, 1) := by decide +kernel
theorem d_Mo_open_20 : decode b_Mo_open 20 = .ok (.ifCond .eq 5, 3) := by decide +kernel
theorem d_Mo_open_23 : decode b_Mo_open 23 = .ok (.iconst (-1), 1) := by decide +kernel
theorem d_Mo_open_24 : decode b_Mo_open 24 = .ok (.ireturn, 1) := by decide +kernel
theorem d_Mo_open_25 : decode b_Mo_open 25 = .ok (.aload_n 0, 1) := by decide +kernel
theorem d_Mo_open_26 : decode b_Mo_open 26 = .ok (.aload_n 0, 1) := by decide +kernel
theorem d_Mo_open_27 : decode b_Mo_open 27 = .ok (.iconst 0, 1) := by decide +kernel
theorem d_Mo_open_28 : decode b_Mo_open 28 = .ok (.invokevirtual 171, 3) := by decide +kernel
theorem d_Mo_open_31 : decode b_Mo_open 31 = .ok (.l2i, 1) := by decide +kernel
theorem d_Mo_open_32 : decode b_Mo_open 32 = .ok (.invokevirtual 135, 3) := by decide +kernel
theorem d_Mo_open_35 : decode b_Mo_open 35 = .ok (.istore_n 1, 1) := by decide +kernel
theorem d_Mo_open_36 : decode b_Mo_open 36 = .ok (.iload_n 1, 1) := by decide +kernel
theorem d_Mo_open_37 : decode b_Mo_open 37 = .ok (.ifCond .ge 6, 3) := by decide +kernel
theorem d_Mo_open_40 : decode b_Mo_open 40 = .ok (.bipush (-2), 2) := by decide +kernel
theorem d_Mo_open_42 : decode b_Mo_open 42 = .ok (.ireturn, 1) := by decide +kernel
theorem d_Mo_open_43 : decode b_Mo_open 43 = .ok (.aload_n 0, 1) := by decide +kernel
theorem d_Mo_open_44 : decode b_Mo_open 44 = .ok (.iconst 4, 1) := by decide +kernel
theorem d_Mo_open_45 : decode b_Mo_open 45 = .ok (.invokevirtual 171, 3) := by decide +kernel
theorem d_Mo_open_48 : decode b_Mo_open 48 = .ok (.lstore_n 2, 1) := by decide +kernel
theorem d_Mo_open_49 : decode b_Mo_open 49 = .ok (.aload_n 0, 1) := by decide +kernel
theorem d_Mo_open_50 : decode b_Mo_open 50 = .ok (.getfield 39, 3) := by decide +kernel
theorem d_Mo_open_53 : decode b_Mo_open 53 = .ok (.iload_n 1, 1) := by decide +kernel
theorem d_Mo_open_54 : decode b_Mo_open 54 = .ok (.laload, 1) := by decide +kernel
theorem d_Mo_open_55 : decode b_Mo_open 55 = .ok (.aload_n 0, 1) := by decide +kernel
theorem d_Mo_open_56 : decode b_Mo_open 56 = .ok (.getfield 26, 3) := by decide +kernel
theorem d_Mo_open_59 : decode b_Mo_open 59 = .ok (.iload_n 1, 1) := by decide +kernel
theorem d_Mo_open_60 : decode b_Mo_open 60 = .ok (.iaload, 1) := by decide +kernel
theorem d_Mo_open_61 : decode b_Mo_open 61 = .ok (.i2l, 1) := by decide +kernel
theorem d_Mo_open_62 : decode b_Mo_open 62 = .ok (.lsub, 1) := by decide +kernel
theorem d_Mo_open_63 : decode b_Mo_open 63 = .ok (.lstore 4, 2) := by decide +kernel
theorem d_Mo_open_65 : decode b_Mo_open 65 = .ok (.aload_n 0, 1) := by decide +kernel
theorem d_Mo_open_66 : decode b_Mo_open 66 = .ok (.getfield 29, 3) := by decide +kernel
theorem d_Mo_open_69 : decode b_Mo_open 69 = .ok (.iload_n 1, 1) := by decide +kernel
theorem d_Mo_open_70 : decode b_Mo_open 70 = .ok (.baload, 1) := by decide +kernel
theorem d_Mo_open_71 : decode b_Mo_open 71 = .ok (.ifCond .eq 21, 3) := by decide +kernel
theorem d_Mo_open_74 : decode b_Mo_open 74 = .ok (.lload 4, 2) := by decide +kernel
theorem d_Mo_open_76 : decode b_Mo_open 76 = .ok (.lconst 1, 1) := by decide +kernel
theorem d_Mo_open_77 : decode b_Mo_open 77 = .ok (.ladd, 1) := by decide +kernel
theorem d_Mo_open_78 : decode b_Mo_open 78 = .ok (.lstore 6, 2) := by decide +kernel
theorem d_Mo_open_80 : decode b_Mo_open 80 = .ok (.lload 6, 2) := by decide +kernel
theorem d_Mo_open_82 : decode b_Mo_open 82 = .ok (.lload_n 2, 1) := by decide +kernel
theorem d_Mo_open_83 : decode b_Mo_open 83 = .ok (.lload 6, 2) := by decide +kernel
theorem d_Mo_open_85 : decode b_Mo_open 85 = .ok (.lsub, 1) := by decide +kernel
theorem d_Mo_open_86 : decode b_Mo_open 86 = .ok (.ldc2_w 133, 3) := by decide +kernel
theorem d_Mo_open_89 : decode b_Mo_open 89 = .ok (.land, 1) := by decide +kernel
theorem d_Mo_open_90 : decode b_Mo_open 90 = .ok (.ladd, 1) := by decide +kernel
theorem d_Mo_open_91 : decode b_Mo_open 91 = .ok (.lstore_n 2, 1) := by decide +kernel
theorem d_Mo_open_92 : decode b_Mo_open 92 = .ok (.lload_n 2, 1) := by decide +kernel
theorem d_Mo_open_93 : decode b_Mo_open 93 = .ok (.lconst 1, 1) := by decide +kernel
theorem d_Mo_open_94 : decode b_Mo_open 94 = .ok (.lcmp, 1) := by decide +kernel
theorem d_Mo_open_95 : decode b_Mo_open 95 = .ok (.ifCond .lt 29, 3) := by decide +kernel
theorem d_Mo_open_98 : decode b_Mo_open 98 = .ok (.lload_n 2, 1) := by decide +kernel
theorem d_Mo_open_99 : decode b_Mo_open 99 = .ok (.aload_n 0, 1) := by decide +kernel
theorem d_Mo_open_100 : decode b_Mo_open 100 = .ok (.iload_n 1, 1) := by decide +kernel
theorem d_Mo_open_101 : decode b_Mo_open 101 = .ok (.invokevirtual 144, 3) := by decide +kernel
theorem d_Mo_open_104 : decode b_Mo_open 104 = .ok (.lcmp, 1) := by decide +kernel
theorem d_Mo_open_105 : decode b_Mo_open 105 = .ok (.ifCond .gt 19, 3) := by decide +kernel
theorem d_Mo_open_108 : decode b_Mo_open 108 = .ok (.lload_n 2, 1) := by decide +kernel
theorem d_Mo_open_109 : decode b_Mo_open 109 = .ok (.lload 4, 2) := by decide +kernel
theorem d_Mo_open_111 : decode b_Mo_open 111 = .ok (.lcmp, 1) := by decide +kernel
theorem d_Mo_open_112 : decode b_Mo_open 112 = .ok (.ifCond .le 12, 3) := by decide +kernel
theorem d_Mo_open_115 : decode b_Mo_open 115 = .ok (.aload_n 0, 1) := by decide +kernel
theorem d_Mo_open_116 : decode b_Mo_open 116 = .ok (.iload_n 1, 1) := by decide +kernel
theorem d_Mo_open_117 : decode b_Mo_open 117 = .ok (.lload_n 2, 1) := by decide +kernel
theorem d_Mo_open_118 : decode b_Mo_open 118 = .ok (.invokevirtual 174, 3) := by decide +kernel
theorem d_Mo_open_121 : decode b_Mo_open 121 = .ok (.ifCond .eq 16, 3) := by decide +kernel
theorem d_Mo_open_124 : decode b_Mo_open 124 = .ok (.aload_n 0, 1) := by decide +kernel
theorem d_Mo_open_125 : decode b_Mo_open 125 = .ok (.getfield 45, 3) := by decide +kernel
theorem d_Mo_open_128 : decode b_Mo_open 128 = .ok (.iload_n 1, 1) := by decide +kernel
theorem d_Mo_open_129 : decode b_Mo_open 129 = .ok (.dup2, 1) := by decide +kernel
theorem d_Mo_open_130 : decode b_Mo_open 130 = .ok (.iaload, 1) := by decide +kernel
theorem d_Mo_open_131 : decode b_Mo_open 131 = .ok (.iconst 1, 1) := by decide +kernel
theorem d_Mo_open_132 : decode b_Mo_open 132 = .ok (.iadd, 1) := by decide +kernel
theorem d_Mo_open_133 : decode b_Mo_open 133 = .ok (.iastore, 1) := by decide +kernel
theorem d_Mo_open_134 : decode b_Mo_open 134 = .ok (.bipush (-3), 2) := by decide +kernel
theorem d_Mo_open_136 : decode b_Mo_open 136 = .ok (.ireturn, 1) := by decide +kernel
theorem d_Mo_open_137 : decode b_Mo_open 137 = .ok (.aload_n 0, 1) := by decide +kernel
theorem d_Mo_open_138 : decode b_Mo_open 138 = .ok (.getfield 151, 3) := by decide +kernel
theorem d_Mo_open_141 : decode b_Mo_open 141 = .ok (.bipush 32, 2) := by decide +kernel
theorem d_Mo_open_143 : decode b_Mo_open 143 = .ok (.isub, 1) := by decide +kernel
theorem d_Mo_open_144 : decode b_Mo_open 144 = .ok (.istore 6, 2) := by decide +kernel
theorem d_Mo_open_146 : decode b_Mo_open 146 = .ok (.aload_n 0, 1) := by decide +kernel
theorem d_Mo_open_147 : decode b_Mo_open 147 = .ok (.iload_n 1, 1) := by decide +kernel
theorem d_Mo_open_148 : decode b_Mo_open 148 = .ok (.lload_n 2, 1) := by decide +kernel
theorem d_Mo_open_149 : decode b_Mo_open 149 = .ok (.iload 6, 2) := by decide +kernel
theorem d_Mo_open_151 : decode b_Mo_open 151 = .ok (.invokevirtual 178, 3) := by decide +kernel
theorem d_Mo_open_154 : decode b_Mo_open 154 = .ok (.ifCond .ne 16, 3) := by decide +kernel
theorem d_Mo_open_157 : decode b_Mo_open 157 = .ok (.aload_n 0, 1) := by decide +kernel
theorem d_Mo_open_158 : decode b_Mo_open 158 = .ok (.getfield 48, 3) := by decide +kernel
theorem d_Mo_open_161 : decode b_Mo_open 161 = .ok (.iload_n 1, 1) := by decide +kernel
theorem d_Mo_open_162 : decode b_Mo_open 162 = .ok (.dup2, 1) := by decide +kernel
theorem d_Mo_open_163 : decode b_Mo_open 163 = .ok (.iaload, 1) := by decide +kernel
theorem d_Mo_open_164 : decode b_Mo_open 164 = .ok (.iconst 1, 1) := by decide +kernel
theorem d_Mo_open_165 : decode b_Mo_open 165 = .ok (.iadd, 1) := by decide +kernel
theorem d_Mo_open_166 : decode b_Mo_open 166 = .ok (.iastore, 1) := by decide +kernel
theorem d_Mo_open_167 : decode b_Mo_open 167 = .ok (.bipush (-4), 2) := by decide +kernel
theorem d_Mo_open_169 : decode b_Mo_open 169 = .ok (.ireturn, 1) := by decide +kernel
theorem d_Mo_open_170 : decode b_Mo_open 170 = .ok (.aload_n 0, 1) := by decide +kernel
theorem d_Mo_open_171 : decode b_Mo_open 171 = .ok (.iload_n 1, 1) := by decide +kernel
theorem d_Mo_open_172 : decode b_Mo_open 172 = .ok (.lload_n 2, 1) := by decide +kernel
theorem d_Mo_open_173 : decode b_Mo_open 173 = .ok (.invokevirtual 182, 3) := by decide +kernel
theorem d_Mo_open_176 : decode b_Mo_open 176 = .ok (.aload_n 0, 1) := by decide +kernel
theorem d_Mo_open_177 : decode b_Mo_open 177 = .ok (.iload_n 1, 1) := by decide +kernel
theorem d_Mo_open_178 : decode b_Mo_open 178 = .ok (.iload 6, 2) := by decide +kernel
theorem d_Mo_open_180 : decode b_Mo_open 180 = .ok (.invokevirtual 186, 3) := by decide +kernel
theorem d_Mo_open_183 : decode b_Mo_open 183 = .ok (.ireturn, 1) := by decide +kernel
theorem d_Mo_got_0 : decode b_Mo_got 0 = .ok (.aload_n 0, 1) := by decide +kernel
theorem d_Mo_got_1 : decode b_Mo_got 1 = .ok (.iconst 0, 1) := by decide +kernel
theorem d_Mo_got_2 : decode b_Mo_got 2 = .ok (.putfield 94, 3) := by decide +kernel
theorem d_Mo_got_5 : decode b_Mo_got 5 = .ok (.aload_n 0, 1) := by decide +kernel
theorem d_Mo_got_6 : decode b_Mo_got 6 = .ok (.getfield 168, 3) := by decide +kernel
theorem d_Mo_got_9 : decode b_Mo_got 9 = .ok (.ireturn, 1) := by decide +kernel
theorem d_Mo_data_0 : decode b_Mo_data 0 = .ok (.aload_n 0, 1) := by decide +kernel
theorem d_Mo_data_1 : decode b_Mo_data 1 = .ok (.iconst 0, 1) := by decide +kernel
theorem d_Mo_data_2 : decode b_Mo_data 2 = .ok (.putfield 94, 3) := by decide +kernel
theorem d_Mo_data_5 : decode b_Mo_data 5 = .ok (.aload_n 0, 1) := by decide +kernel
theorem d_Mo_data_6 : decode b_Mo_data 6 = .ok (.getfield 69, 3) := by decide +kernel
theorem d_Mo_data_9 : decode b_Mo_data 9 = .ok (.aload_n 0, 1) := by decide +kernel
theorem d_Mo_data_10 : decode b_Mo_data 10 = .ok (.getfield 168, 3) := by decide +kernel
theorem d_Mo_data_13 : decode b_Mo_data 13 = .ok (.iload_n 1, 1) := by decide +kernel
theorem d_Mo_data_14 : decode b_Mo_data 14 = .ok (.invokestatic 164, 3) := by decide +kernel
theorem d_Mo_data_17 : decode b_Mo_data 17 = .ok (.lreturn, 1) := by decide +kernel
theorem d_Mo_told_0 : decode b_Mo_told 0 = .ok (.aload_n 0, 1) := by decide +kernel
theorem d_Mo_told_1 : decode b_Mo_told 1 = .ok (.iload_n 1, 1) := by decide +kernel
theorem d_Mo_told_2 : decode b_Mo_told 2 = .ok (.invokevirtual 135, 3) := by decide +kernel
theorem d_Mo_told_5 : decode b_Mo_told 5 = .ok (.istore_n 3, 1) := by decide +kernel
theorem d_Mo_told_6 : decode b_Mo_told 6 = .ok (.aload_n 0, 1) := by decide +kernel
theorem d_Mo_told_7 : decode b_Mo_told 7 = .ok (.iload_n 3, 1) := by decide +kernel
theorem d_Mo_told_8 : decode b_Mo_told 8 = .ok (.ifCond .ge 7, 3) := by decide +kernel
theorem d_Mo_told_11 : decode b_Mo_told 11 = .ok (.iconst 1, 1) := by decide +kernel
theorem d_Mo_told_12 : decode b_Mo_told 12 = .ok (.goto 18, 3) := by decide +kernel
theorem d_Mo_told_15 : decode b_Mo_told 15 = .ok (.iload_n 2, 1) := by decide +kernel
theorem d_Mo_told_16 : decode b_Mo_told 16 = .ok (.ifCond .lt 9, 3) := by decide +kernel
theorem d_Mo_told_19 : decode b_Mo_told 19 = .ok (.iload_n 2, 1) := by decide +kernel
theorem d_Mo_told_20 : decode b_Mo_told 20 = .ok (.bipush 7, 2) := by decide +kernel
theorem d_Mo_told_22 : decode b_Mo_told 22 = .ok (.if_icmp .le 7, 3) := by decide +kernel
theorem d_Mo_told_25 : decode b_Mo_told 25 = .ok (.iconst 2, 1) := by decide +kernel
theorem d_Mo_told_26 : decode b_Mo_told 26 = .ok (.goto 4, 3) := by decide +kernel
theorem d_Mo_told_29 : decode b_Mo_told 29 = .ok (.iconst 0, 1) := by decide +kernel
theorem d_Mo_told_30 : decode b_Mo_told 30 = .ok (.putfield 94, 3) := by decide +kernel
theorem d_Mo_told_33 : decode b_Mo_told 33 = .ok (.aload_n 0, 1) := by decide +kernel
theorem d_Mo_told_34 : decode b_Mo_told 34 = .ok (.getfield 94, 3) := by decide +kernel
theorem d_Mo_told_37 : decode b_Mo_told 37 = .ok (.ifCond .le 5, 3) := by decide +kernel
theorem d_Mo_told_40 : decode b_Mo_told 40 = .ok (.lconst 0, 1) := by decide +kernel
theorem d_Mo_told_41 : decode b_Mo_told 41 = .ok (.lreturn, 1) := by decide +kernel
theorem d_Mo_told_42 : decode b_Mo_told 42 = .ok (.iload_n 2, 1) := by decide +kernel
theorem d_Mo_told_43 : decode b_Mo_told 43 = .ok (.tableswitch 94 0 6 #[41, 48, 55, 62, 70, 78, 86], 41) := by decide +kernel
theorem d_Mo_told_84 : decode b_Mo_told 84 = .ok (.aload_n 0, 1) := by decide +kernel
theorem d_Mo_told_85 : decode b_Mo_told 85 = .ok (.getfield 32, 3) := by decide +kernel
theorem d_Mo_told_88 : decode b_Mo_told 88 = .ok (.iload_n 3, 1) := by decide +kernel
theorem d_Mo_told_89 : decode b_Mo_told 89 = .ok (.laload, 1) := by decide +kernel
theorem d_Mo_told_90 : decode b_Mo_told 90 = .ok (.lreturn, 1) := by decide +kernel
theorem d_Mo_told_91 : decode b_Mo_told 91 = .ok (.aload_n 0, 1) := by decide +kernel
theorem d_Mo_told_92 : decode b_Mo_told 92 = .ok (.getfield 39, 3) := by decide +kernel
theorem d_Mo_told_95 : decode b_Mo_told 95 = .ok (.iload_n 3, 1) := by decide +kernel
theorem d_Mo_told_96 : decode b_Mo_told 96 = .ok (.laload, 1) := by decide +kernel
theorem d_Mo_told_97 : decode b_Mo_told 97 = .ok (.lreturn, 1) := by decide +kernel
theorem d_Mo_told_98 : decode b_Mo_told 98 = .ok (.aload_n 0, 1) := by decide +kernel
theorem d_Mo_told_99 : decode b_Mo_told 99 = .ok (.getfield 42, 3) := by decide +kernel
theorem d_Mo_told_102 : decode b_Mo_told 102 = .ok (.iload_n 3, 1) := by decide +kernel
theorem d_Mo_told_103 : decode b_Mo_told 103 = .ok (.laload, 1) := by decide +kernel
theorem d_Mo_told_104 : decode b_Mo_told 104 = .ok (.lreturn, 1) := by decide +kernel
theorem d_Mo_told_105 : decode b_Mo_told 105 = .ok (.aload_n 0, 1) := by decide +kernel
theorem d_Mo_told_106 : decode b_Mo_told 106 = .ok (.getfield 45, 3) := by decide +kernel
theorem d_Mo_told_109 : decode b_Mo_told 109 = .ok (.iload_n 3, 1) := by decide +kernel
theorem d_Mo_told_110 : decode b_Mo_told 110 = .ok (.iaload, 1) := by decide +kernel
theorem d_Mo_told_111 : decode b_Mo_told 111 = .ok (.i2l, 1) := by decide +kernel
theorem d_Mo_told_112 : decode b_Mo_told 112 = .ok (.lreturn, 1) := by decide +kernel
theorem d_Mo_told_113 : decode b_Mo_told 113 = .ok (.aload_n 0, 1) := by decide +kernel
theorem d_Mo_told_114 : decode b_Mo_told 114 = .ok (.getfield 48, 3) := by decide +kernel
theorem d_Mo_told_117 : decode b_Mo_told 117 = .ok (.iload_n 3, 1) := by decide +kernel
theorem d_Mo_told_118 : decode b_Mo_told 118 = .ok (.iaload, 1) := by decide +kernel
theorem d_Mo_told_119 : decode b_Mo_told 119 = .ok (.i2l, 1) := by decide +kernel
theorem d_Mo_told_120 : decode b_Mo_told 120 = .ok (.lreturn, 1) := by decide +kernel
theorem d_Mo_told_121 : decode b_Mo_told 121 = .ok (.aload_n 0, 1) := by decide +kernel
theorem d_Mo_told_122 : decode b_Mo_told 122 = .ok (.getfield 36, 3) := by decide +kernel
theorem d_Mo_told_125 : decode b_Mo_told 125 = .ok (.iload_n 3, 1) := by decide +kernel
theorem d_Mo_told_126 : decode b_Mo_told 126 = .ok (.iaload, 1) := by decide +kernel
theorem d_Mo_told_127 : decode b_Mo_told 127 = .ok (.i2l, 1) := by decide +kernel
theorem d_Mo_told_128 : decode b_Mo_told 128 = .ok (.lreturn, 1) := by decide +kernel
theorem d_Mo_told_129 : decode b_Mo_told 129 = .ok (.aload_n 0, 1) := by decide +kernel
theorem d_Mo_told_130 : decode b_Mo_told 130 = .ok (.getfield 26, 3) := by decide +kernel
theorem d_Mo_told_133 : decode b_Mo_told 133 = .ok (.iload_n 3, 1) := by decide +kernel
theorem d_Mo_told_134 : decode b_Mo_told 134 = .ok (.iaload, 1) := by decide +kernel
theorem d_Mo_told_135 : decode b_Mo_told 135 = .ok (.i2l, 1) := by decide +kernel
theorem d_Mo_told_136 : decode b_Mo_told 136 = .ok (.lreturn, 1) := by decide +kernel
theorem d_Mo_told_137 : decode b_Mo_told 137 = .ok (.aload_n 0, 1) := by decide +kernel
theorem d_Mo_told_138 : decode b_Mo_told 138 = .ok (.getfield 29, 3) := by decide +kernel
theorem d_Mo_told_141 : decode b_Mo_told 141 = .ok (.iload_n 3, 1) := by decide +kernel
theorem d_Mo_told_142 : decode b_Mo_told 142 = .ok (.baload, 1) := by decide +kernel
theorem d_Mo_told_143 : decode b_Mo_told 143 = .ok (.ifCond .eq 7, 3) := by decide +kernel
theorem d_Mo_told_146 : decode b_Mo_told 146 = .ok (.lconst 1, 1) := by decide +kernel
theorem d_Mo_told_147 : decode b_Mo_told 147 = .ok (.goto 4, 3) := by decide +kernel
theorem d_Mo_told_150 : decode b_Mo_told 150 = .ok (.lconst 0, 1) := by decide +kernel
theorem d_Mo_told_151 : decode b_Mo_told 151 = .ok (.lreturn, 1) := by decide +kernel
theorem d_Mo_given_0 : decode b_Mo_given 0 = .ok (.aload_n 0, 1) := by decide +kernel
theorem d_Mo_given_1 : decode b_Mo_given 1 = .ok (.iload_n 1, 1) := by decide +kernel
theorem d_Mo_given_2 : decode b_Mo_given 2 = .ok (.invokevirtual 135, 3) := by decide +kernel
theorem d_Mo_given_5 : decode b_Mo_given 5 = .ok (.istore_n 3, 1) := by decide +kernel
theorem d_Mo_given_6 : decode b_Mo_given 6 = .ok (.aload_n 0, 1) := by decide +kernel
theorem d_Mo_given_7 : decode b_Mo_given 7 = .ok (.iload_n 3, 1) := by decide +kernel
theorem d_Mo_given_8 : decode b_Mo_given 8 = .ok (.ifCond .ge 7, 3) := by decide +kernel
theorem d_Mo_given_11 : decode b_Mo_given 11 = .ok (.iconst 1, 1) := by decide +kernel
theorem d_Mo_given_12 : decode b_Mo_given 12 = .ok (.goto 12, 3) := by decide +kernel
theorem d_Mo_given_15 : decode b_Mo_given 15 = .ok (.iload_n 2, 1) := by decide +kernel
theorem d_Mo_given_16 : decode b_Mo_given 16 = .ok (.ifCond .ge 7, 3) := by decide +kernel
theorem d_Mo_given_19 : decode b_Mo_given 19 = .ok (.iconst 2, 1) := by decide +kernel
theorem d_Mo_given_20 : decode b_Mo_given 20 = .ok (.goto 4, 3) := by decide +kernel
theorem d_Mo_given_23 : decode b_Mo_given 23 = .ok (.iconst 0, 1) := by decide +kernel
theorem d_Mo_given_24 : decode b_Mo_given 24 = .ok (.putfield 94, 3) := by decide +kernel
theorem d_Mo_given_27 : decode b_Mo_given 27 = .ok (.lconst 0, 1) := by decide +kernel
theorem d_Mo_given_28 : decode b_Mo_given 28 = .ok (.lstore 4, 2) := by decide +kernel
theorem d_Mo_given_30 : decode b_Mo_given 30 = .ok (.iconst 0, 1) := by decide +kernel
theorem d_Mo_given_31 : decode b_Mo_given 31 = .ok (.istore 6, 2) := by decide +kernel
theorem d_Mo_given_33 : decode b_Mo_given 33 = .ok (.iload 6, 2) := by decide +kernel
theorem d_Mo_given_35 : decode b_Mo_given 35 = .ok (.bipush 64, 2) := by decide +kernel
theorem d_Mo_given_37 : decode b_Mo_given 37 = .ok (.if_icmp .ge 63, 3) := by decide +kernel
theorem d_Mo_given_40 : decode b_Mo_given 40 = .ok (.aload_n 0, 1) := by decide +kernel
theorem d_Mo_given_41 : decode b_Mo_given 41 = .ok (.getfield 94, 3) := by decide +kernel
theorem d_Mo_given_44 : decode b_Mo_given 44 = .ok (.ifCond .ne 56, 3) := by decide +kernel
theorem d_Mo_given_47 : decode b_Mo_given 47 = .ok (.iload_n 2, 1) := by decide +kernel
theorem d_Mo_given_48 : decode b_Mo_given 48 = .ok (.i2l, 1) := by decide +kernel
theorem d_Mo_given_49 : decode b_Mo_given 49 = .ok (.iload 6, 2) := by decide +kernel
theorem d_Mo_given_51 : decode b_Mo_given 51 = .ok (.i2l, 1) := by decide +kernel
theorem d_Mo_given_52 : decode b_Mo_given 52 = .ok (.ladd, 1) := by decide +kernel
theorem d_Mo_given_53 : decode b_Mo_given 53 = .ok (.lstore 7, 2) := by decide +kernel
theorem d_Mo_given_55 : decode b_Mo_given 55 = .ok (.lload 7, 2) := by decide +kernel
theorem d_Mo_given_57 : decode b_Mo_given 57 = .ok (.aload_n 0, 1) := by decide +kernel
theorem d_Mo_given_58 : decode b_Mo_given 58 = .ok (.getfield 26, 3) := by decide +kernel
theorem d_Mo_given_61 : decode b_Mo_given 61 = .ok (.iload_n 3, 1) := by decide +kernel
theorem d_Mo_given_62 : decode b_Mo_given 62 = .ok (.iaload, 1) := by decide +kernel
theorem d_Mo_given_63 : decode b_Mo_given 63 = .ok (.i2l, 1) := by decide +kernel
theorem d_Mo_given_64 : decode b_Mo_given 64 = .ok (.lcmp, 1) := by decide +kernel
theorem d_Mo_given_65 : decode b_Mo_given 65 = .ok (.ifCond .ge 29, 3) := by decide +kernel
theorem d_Mo_given_68 : decode b_Mo_given 68 = .ok (.aload_n 0, 1) := by decide +kernel
theorem d_Mo_given_69 : decode b_Mo_given 69 = .ok (.iload_n 3, 1) := by decide +kernel
theorem d_Mo_given_70 : decode b_Mo_given 70 = .ok (.aload_n 0, 1) := by decide +kernel
theorem d_Mo_given_71 : decode b_Mo_given 71 = .ok (.getfield 39, 3) := by decide +kernel
theorem d_Mo_given_74 : decode b_Mo_given 74 = .ok (.iload_n 3, 1) := by decide +kernel
theorem d_Mo_given_75 : decode b_Mo_given 75 = .ok (.laload, 1) := by decide +kernel
theorem d_Mo_given_76 : decode b_Mo_given 76 = .ok (.lload 7, 2) := by decide +kernel
theorem d_Mo_given_78 : decode b_Mo_given 78 = .ok (.lsub, 1) := by decide +kernel
theorem d_Mo_given_79 : decode b_Mo_given 79 = .ok (.invokevirtual 174, 3) := by decide +kernel
theorem d_Mo_given_82 : decode b_Mo_given 82 = .ok (.ifCond .eq 12, 3) := by decide +kernel
theorem d_Mo_given_85 : decode b_Mo_given 85 = .ok (.lload 4, 2) := by decide +kernel
theorem d_Mo_given_87 : decode b_Mo_given 87 = .ok (.lconst 1, 1) := by decide +kernel

theorem d_Mo_seal_38 : decode b_Mo_seal 38 = .ok (.ifCond .le 5, 3) := by decide +kernel
theorem d_Mo_seal_41 : decode b_Mo_seal 41 = .ok (.iconst 0, 1) := by decide +kernel
theorem d_Mo_seal_42 : decode b_Mo_seal 42 = .ok (.ireturn, 1) := by decide +kernel
theorem d_Mo_seal_43 : decode b_Mo_seal 43 = .ok (.aload_n 0, 1) := by decide +kernel
theorem d_Mo_seal_44 : decode b_Mo_seal 44 = .ok (.getfield 32, 3) := by decide +kernel
theorem d_Mo_seal_47 : decode b_Mo_seal 47 = .ok (.iload_n 3, 1) := by decide +kernel
theorem d_Mo_seal_48 : decode b_Mo_seal 48 = .ok (.laload, 1) := by decide +kernel
theorem d_Mo_seal_49 : decode b_Mo_seal 49 = .ok (.aload_n 0, 1) := by decide +kernel
theorem d_Mo_seal_50 : decode b_Mo_seal 50 = .ok (.iload_n 3, 1) := by decide +kernel
theorem d_Mo_seal_51 : decode b_Mo_seal 51 = .ok (.invokevirtual 144, 3) := by decide +kernel
theorem d_Mo_seal_54 : decode b_Mo_seal 54 = .ok (.lcmp, 1) := by decide +kernel
theorem d_Mo_seal_55 : decode b_Mo_seal 55 = .ok (.ifCond .eq 16, 3) := by decide +kernel
theorem d_Mo_seal_58 : decode b_Mo_seal 58 = .ok (.aload_n 0, 1) := by decide +kernel
theorem d_Mo_seal_59 : decode b_Mo_seal 59 = .ok (.getfield 148, 3) := by decide +kernel
theorem d_Mo_seal_62 : decode b_Mo_seal 62 = .ok (.aload_n 0, 1) := by decide +kernel
theorem d_Mo_seal_63 : decode b_Mo_seal 63 = .ok (.getfield 36, 3) := by decide +kernel
theorem d_Mo_seal_66 : decode b_Mo_seal 66 = .ok (.iload_n 3, 1) := by decide +kernel
theorem d_Mo_seal_67 : decode b_Mo_seal 67 = .ok (.iaload, 1) := by decide +kernel
theorem d_Mo_seal_68 : decode b_Mo_seal 68 = .ok (.if_icmp .le 5, 3) := by decide +kernel
theorem d_Mo_seal_71 : decode b_Mo_seal 71 = .ok (.iconst (-1), 1) := by decide +kernel
theorem d_Mo_seal_72 : decode b_Mo_seal 72 = .ok (.ireturn, 1) := by decide +kernel
theorem d_Mo_seal_73 : decode b_Mo_seal 73 = .ok (.aload_n 0, 1) := by decide +kernel
theorem d_Mo_seal_74 : decode b_Mo_seal 74 = .ok (.getfield 32, 3) := by decide +kernel
theorem d_Mo_seal_77 : decode b_Mo_seal 77 = .ok (.iload_n 3, 1) := by decide +kernel
theorem d_Mo_seal_78 : decode b_Mo_seal 78 = .ok (.dup2, 1) := by decide +kernel
theorem d_Mo_seal_79 : decode b_Mo_seal 79 = .ok (.laload, 1) := by decide +kernel
theorem d_Mo_seal_80 : decode b_Mo_seal 80 = .ok (.lconst 1, 1) := by decide +kernel
theorem d_Mo_seal_81 : decode b_Mo_seal 81 = .ok (.ladd, 1) := by decide +kernel
theorem d_Mo_seal_82 : decode b_Mo_seal 82 = .ok (.lastore, 1) := by decide +kernel
theorem d_Mo_seal_83 : decode b_Mo_seal 83 = .ok (.aload_n 0, 1) := by decide +kernel
theorem d_Mo_seal_84 : decode b_Mo_seal 84 = .ok (.getfield 36, 3) := by decide +kernel
theorem d_Mo_seal_87 : decode b_Mo_seal 87 = .ok (.iload_n 3, 1) := by decide +kernel
theorem d_Mo_seal_88 : decode b_Mo_seal 88 = .ok (.aload_n 0, 1) := by decide +kernel
theorem d_Mo_seal_89 : decode b_Mo_seal 89 = .ok (.getfield 36, 3) := by decide +kernel
theorem d_Mo_seal_92 : decode b_Mo_seal 92 = .ok (.iload_n 3, 1) := by decide +kernel
theorem d_Mo_seal_93 : decode b_Mo_seal 93 = .ok (.iaload, 1) := by decide +kernel
theorem d_Mo_seal_94 : decode b_Mo_seal 94 = .ok (.aload_n 0, 1) := by decide +kernel
theorem d_Mo_seal_95 : decode b_Mo_seal 95 = .ok (.getfield 148, 3) := by decide +kernel
theorem d_Mo_seal_98 : decode b_Mo_seal 98 = .ok (.isub, 1) := by decide +kernel
theorem d_Mo_seal_99 : decode b_Mo_seal 99 = .ok (.iastore, 1) := by decide +kernel
theorem d_Mo_seal_100 : decode b_Mo_seal 100 = .ok (.aload_n 0, 1) := by decide +kernel
theorem d_Mo_seal_101 : decode b_Mo_seal 101 = .ok (.iconst 0, 1) := by decide +kernel
theorem d_Mo_seal_102 : decode b_Mo_seal 102 = .ok (.putfield 151, 3) := by decide +kernel
theorem d_Mo_seal_105 : decode b_Mo_seal 105 = .ok (.iconst 0, 1) := by decide +kernel
theorem d_Mo_seal_106 : decode b_Mo_seal 106 = .ok (.istore 4, 2) := by decide +kernel
theorem d_Mo_seal_108 : decode b_Mo_seal 108 = .ok (.iload 4, 2) := by decide +kernel
theorem d_Mo_seal_110 : decode b_Mo_seal 110 = .ok (.iconst 4, 1) := by decide +kernel
theorem d_Mo_seal_111 : decode b_Mo_seal 111 = .ok (.if_icmp .ge 27, 3) := by decide +kernel
theorem d_Mo_seal_114 : decode b_Mo_seal 114 = .ok (.aload_n 0, 1) := by decide +kernel
theorem d_Mo_seal_115 : decode b_Mo_seal 115 = .ok (.iload_n 1, 1) := by decide +kernel
theorem d_Mo_seal_116 : decode b_Mo_seal 116 = .ok (.bipush 24, 2) := by decide +kernel
theorem d_Mo_seal_118 : decode b_Mo_seal 118 = .ok (.bipush 8, 2) := by decide +kernel
theorem d_Mo_seal_120 : decode b_Mo_seal 120 = .ok (.iload 4, 2) := by decide +kernel
theorem d_Mo_seal_122 : decode b_Mo_seal 122 = .ok (.imul, 1) := by decide +kernel
theorem d_Mo_seal_123 : decode b_Mo_seal 123 = .ok (.isub, 1) := by decide +kernel
theorem d_Mo_seal_124 : decode b_Mo_seal 124 = .ok (.ishr, 1) := by decide +kernel
theorem d_Mo_seal_125 : decode b_Mo_seal 125 = .ok (.sipush 255, 3) := by decide +kernel
theorem d_Mo_seal_128 : decode b_Mo_seal 128 = .ok (.iand, 1) := by decide +kernel
theorem d_Mo_seal_129 : decode b_Mo_seal 129 = .ok (.invokevirtual 154, 3) := by decide +kernel
theorem d_Mo_seal_132 : decode b_Mo_seal 132 = .ok (.iinc 4 1, 3) := by decide +kernel
theorem d_Mo_seal_135 : decode b_Mo_seal 135 = .ok (.goto (-27), 3) := by decide +kernel
theorem d_Mo_seal_138 : decode b_Mo_seal 138 = .ok (.iconst 0, 1) := by decide +kernel
theorem d_Mo_seal_139 : decode b_Mo_seal 139 = .ok (.istore 4, 2) := by decide +kernel
theorem d_Mo_seal_141 : decode b_Mo_seal 141 = .ok (.iload 4, 2) := by decide +kernel
theorem d_Mo_seal_143 : decode b_Mo_seal 143 = .ok (.bipush 12, 2) := by decide +kernel
theorem d_Mo_seal_145 : decode b_Mo_seal 145 = .ok (.if_icmp .ge 39, 3) := by decide +kernel
theorem d_Mo_seal_148 : decode b_Mo_seal 148 = .ok (.aload_n 0, 1) := by decide +kernel
theorem d_Mo_seal_149 : decode b_Mo_seal 149 = .ok (.aload_n 0, 1) := by decide +kernel
theorem d_Mo_seal_150 : decode b_Mo_seal 150 = .ok (.getfield 32, 3) := by decide +kernel
theorem d_Mo_seal_153 : decode b_Mo_seal 153 = .ok (.iload_n 3, 1) := by decide +kernel
theorem d_Mo_seal_154 : decode b_Mo_seal 154 = .ok (.laload, 1) := by decide +kernel
theorem d_Mo_seal_155 : decode b_Mo_seal 155 = .ok (.iload 4, 2) := by decide +kernel
theorem d_Mo_seal_157 : decode b_Mo_seal 157 = .ok (.iconst 4, 1) := by decide +kernel
theorem d_Mo_seal_158 : decode b_Mo_seal 158 = .ok (.if_icmp .ge 10, 3) := by decide +kernel
theorem d_Mo_seal_161 : decode b_Mo_seal 161 = .ok (.iload 4, 2) := by decide +kernel
theorem d_Mo_seal_163 : decode b_Mo_seal 163 = .ok (.iconst 4, 1) := by decide +kernel
theorem d_Mo_seal_164 : decode b_Mo_seal 164 = .ok (.iadd, 1) := by decide +kernel
theorem d_Mo_seal_165 : decode b_Mo_seal 165 = .ok (.goto 7, 3) := by decide +kernel
theorem d_Mo_seal_168 : decode b_Mo_seal 168 = .ok (.iload 4, 2) := by decide +kernel
theorem d_Mo_seal_170 : decode b_Mo_seal 170 = .ok (.iconst 4, 1) := by decide +kernel
theorem d_Mo_seal_171 : decode b_Mo_seal 171 = .ok (.isub, 1) := by decide +kernel
theorem d_Mo_seal_172 : decode b_Mo_seal 172 = .ok (.invokestatic 119, 3) := by decide +kernel
theorem d_Mo_seal_175 : decode b_Mo_seal 175 = .ok (.invokevirtual 154, 3) := by decide +kernel
theorem d_Mo_seal_178 : decode b_Mo_seal 178 = .ok (.iinc 4 1, 3) := by decide +kernel
theorem d_Mo_seal_181 : decode b_Mo_seal 181 = .ok (.goto (-40), 3) := by decide +kernel
theorem d_Mo_seal_184 : decode b_Mo_seal 184 = .ok (.iconst 0, 1) := by decide +kernel
theorem d_Mo_seal_185 : decode b_Mo_seal 185 = .ok (.istore 4, 2) := by decide +kernel
theorem d_Mo_seal_187 : decode b_Mo_seal 187 = .ok (.iload 4, 2) := by decide +kernel
theorem d_Mo_seal_189 : decode b_Mo_seal 189 = .ok (.aload_n 0, 1) := by decide +kernel
theorem d_Mo_seal_190 : decode b_Mo_seal 190 = .ok (.getfield 148, 3) := by decide +kernel
theorem d_Mo_seal_193 : decode b_Mo_seal 193 = .ok (.if_icmp .ge 20, 3) := by decide +kernel
theorem d_Mo_seal_196 : decode b_Mo_seal 196 = .ok (.aload_n 0, 1) := by decide +kernel
theorem d_Mo_seal_197 : decode b_Mo_seal 197 = .ok (.aload_n 0, 1) := by decide +kernel
theorem d_Mo_seal_198 : decode b_Mo_seal 198 = .ok (.getfield 57, 3) := by decide +kernel
theorem d_Mo_seal_201 : decode b_Mo_seal 201 = .ok (.iload 4, 2) := by decide +kernel
theorem d_Mo_seal_203 : decode b_Mo_seal 203 = .ok (.iaload, 1) := by decide +kernel
theorem d_Mo_seal_204 : decode b_Mo_seal 204 = .ok (.invokevirtual 154, 3) := by decide +kernel
theorem d_Mo_seal_207 : decode b_Mo_seal 207 = .ok (.iinc 4 1, 3) := by decide +kernel
theorem d_Mo_seal_210 : decode b_Mo_seal 210 = .ok (.goto (-23), 3) := by decide +kernel
theorem d_Mo_seal_213 : decode b_Mo_seal 213 = .ok (.iconst 0, 1) := by decide +kernel
theorem d_Mo_seal_214 : decode b_Mo_seal 214 = .ok (.istore 4, 2) := by decide +kernel
theorem d_Mo_seal_216 : decode b_Mo_seal 216 = .ok (.aload_n 0, 1) := by decide +kernel
theorem d_Mo_seal_217 : decode b_Mo_seal 217 = .ok (.getfield 151, 3) := by decide +kernel
theorem d_Mo_seal_220 : decode b_Mo_seal 220 = .ok (.iconst 2, 1) := by decide +kernel
theorem d_Mo_seal_221 : decode b_Mo_seal 221 = .ok (.iadd, 1) := by decide +kernel
theorem d_Mo_seal_222 : decode b_Mo_seal 222 = .ok (.iconst 4, 1) := by decide +kernel
theorem d_Mo_seal_223 : decode b_Mo_seal 223 = .ok (.irem, 1) := by decide +kernel
theorem d_Mo_seal_224 : decode b_Mo_seal 224 = .ok (.ifCond .eq 15, 3) := by decide +kernel
theorem d_Mo_seal_227 : decode b_Mo_seal 227 = .ok (.iinc 4 1, 3) := by decide +kernel
theorem d_Mo_seal_230 : decode b_Mo_seal 230 = .ok (.aload_n 0, 1) := by decide +kernel
theorem d_Mo_seal_231 : decode b_Mo_seal 231 = .ok (.iload 4, 2) := by decide +kernel
theorem d_Mo_seal_233 : decode b_Mo_seal 233 = .ok (.invokevirtual 154, 3) := by decide +kernel
theorem d_Mo_seal_236 : decode b_Mo_seal 236 = .ok (.goto (-20), 3) := by decide +kernel
theorem d_Mo_seal_239 : decode b_Mo_seal 239 = .ok (.aload_n 0, 1) := by decide +kernel
theorem d_Mo_seal_240 : decode b_Mo_seal 240 = .ok (.iload 4, 2) := by decide +kernel
theorem d_Mo_seal_242 : decode b_Mo_seal 242 = .ok (.invokevirtual 154, 3) := by decide +kernel
theorem d_Mo_seal_245 : decode b_Mo_seal 245 = .ok (.aload_n 0, 1) := by decide +kernel
theorem d_Mo_seal_246 : decode b_Mo_seal 246 = .ok (.iload_n 2, 1) := by decide +kernel
theorem d_Mo_seal_247 : decode b_Mo_seal 247 = .ok (.invokevirtual 154, 3) := by decide +kernel
theorem d_Mo_seal_250 : decode b_Mo_seal 250 = .ok (.aload_n 0, 1) := by decide +kernel
theorem d_Mo_seal_251 : decode b_Mo_seal 251 = .ok (.getfield 151, 3) := by decide +kernel
theorem d_Mo_seal_254 : decode b_Mo_seal 254 = .ok (.bipush 16, 2) := by decide +kernel
theorem d_Mo_seal_256 : decode b_Mo_seal 256 = .ok (.isub, 1) := by decide +kernel
theorem d_Mo_seal_257 : decode b_Mo_seal 257 = .ok (.istore 5, 2) := by decide +kernel
theorem d_Mo_seal_259 : decode b_Mo_seal 259 = .ok (.aload_n 0, 1) := by decide +kernel
theorem d_Mo_seal_260 : decode b_Mo_seal 260 = .ok (.iload_n 3, 1) := by decide +kernel
theorem d_Mo_seal_261 : decode b_Mo_seal 261 = .ok (.iload 5, 2) := by decide +kernel
theorem d_Mo_seal_263 : decode b_Mo_seal 263 = .ok (.invokevirtual 157, 3) := by decide +kernel
theorem d_Mo_seal_266 : decode b_Mo_seal 266 = .ok (.aload_n 0, 1) := by decide +kernel
theorem d_Mo_seal_267 : decode b_Mo_seal 267 = .ok (.iload_n 3, 1) := by decide +kernel
theorem d_Mo_seal_268 : decode b_Mo_seal 268 = .ok (.aload_n 0, 1) := by decide +kernel
theorem d_Mo_seal_269 : decode b_Mo_seal 269 = .ok (.getfield 32, 3) := by decide +kernel
theorem d_Mo_seal_272 : decode b_Mo_seal 272 = .ok (.iload_n 3, 1) := by decide +kernel
theorem d_Mo_seal_273 : decode b_Mo_seal 273 = .ok (.laload, 1) := by decide +kernel
theorem d_Mo_seal_274 : decode b_Mo_seal 274 = .ok (.iload 5, 2) := by decide +kernel
theorem d_Mo_seal_276 : decode b_Mo_seal 276 = .ok (.invokevirtual 160, 3) := by decide +kernel
theorem d_Mo_seal_279 : decode b_Mo_seal 279 = .ok (.iconst 0, 1) := by decide +kernel
theorem d_Mo_seal_280 : decode b_Mo_seal 280 = .ok (.istore 6, 2) := by decide +kernel
theorem d_Mo_seal_282 : decode b_Mo_seal 282 = .ok (.iload 6, 2) := by decide +kernel
theorem d_Mo_seal_284 : decode b_Mo_seal 284 = .ok (.bipush 16, 2) := by decide +kernel
theorem d_Mo_seal_286 : decode b_Mo_seal 286 = .ok (.if_icmp .ge 20, 3) := by decide +kernel
theorem d_Mo_seal_289 : decode b_Mo_seal 289 = .ok (.aload_n 0, 1) := by decide +kernel
theorem d_Mo_seal_290 : decode b_Mo_seal 290 = .ok (.aload_n 0, 1) := by decide +kernel
theorem d_Mo_seal_291 : decode b_Mo_seal 291 = .ok (.getfield 87, 3) := by decide +kernel
theorem d_Mo_seal_294 : decode b_Mo_seal 294 = .ok (.iload 6, 2) := by decide +kernel
theorem d_Mo_seal_296 : decode b_Mo_seal 296 = .ok (.iaload, 1) := by decide +kernel
theorem d_Mo_seal_297 : decode b_Mo_seal 297 = .ok (.invokevirtual 154, 3) := by decide +kernel
theorem d_Mo_seal_300 : decode b_Mo_seal 300 = .ok (.iinc 6 1, 3) := by decide +kernel
theorem d_Mo_seal_303 : decode b_Mo_seal 303 = .ok (.goto (-21), 3) := by decide +kernel
theorem d_Mo_seal_306 : decode b_Mo_seal 306 = .ok (.aload_n 0, 1) := by decide +kernel
theorem d_Mo_seal_307 : decode b_Mo_seal 307 = .ok (.getfield 151, 3) := by decide +kernel
theorem d_Mo_seal_310 : decode b_Mo_seal 310 = .ok (.ireturn, 1) := by decide +kernel
theorem d_Mo_size_0 : decode b_Mo_size 0 = .ok (.aload_n 0, 1) := by decide +kernel
theorem d_Mo_size_1 : decode b_Mo_size 1 = .ok (.iconst 0, 1) := by decide +kernel
theorem d_Mo_size_2 : decode b_Mo_size 2 = .ok (.putfield 94, 3) := by decide +kernel
theorem d_Mo_size_5 : decode b_Mo_size 5 = .ok (.aload_n 0, 1) := by decide +kernel
theorem d_Mo_size_6 : decode b_Mo_size 6 = .ok (.getfield 151, 3) := by decide +kernel
theorem d_Mo_size_9 : decode b_Mo_size 9 = .ok (.ireturn, 1) := by decide +kernel
theorem d_Mo_eight_0 : decode b_Mo_eight 0 = .ok (.lconst 0, 1) := by decide +kernel
theorem d_Mo_eight_1 : decode b_Mo_eight 1 = .ok (.lstore_n 3, 1) := by decide +kernel
theorem d_Mo_eight_2 : decode b_Mo_eight 2 = .ok (.iconst 0, 1) := by decide +kernel
theorem d_Mo_eight_3 : decode b_Mo_eight 3 = .ok (.istore 5, 2) := by decide +kernel
theorem d_Mo_eight_5 : decode b_Mo_eight 5 = .ok (.iload 5, 2) := by decide +kernel
theorem d_Mo_eight_7 : decode b_Mo_eight 7 = .ok (.bipush 8, 2) := by decide +kernel
theorem d_Mo_eight_9 : decode b_Mo_eight 9 = .ok (.if_icmp .ge 51, 3) := by decide +kernel
theorem d_Mo_eight_12 : decode b_Mo_eight 12 = .ok (.iload_n 2, 1) := by decide +kernel
theorem d_Mo_eight_13 : decode b_Mo_eight 13 = .ok (.i2l, 1) := by decide +kernel
theorem d_Mo_eight_14 : decode b_Mo_eight 14 = .ok (.iload 5, 2) := by decide +kernel
theorem d_Mo_eight_16 : decode b_Mo_eight 16 = .ok (.i2l, 1) := by decide +kernel
theorem d_Mo_eight_17 : decode b_Mo_eight 17 = .ok (.ladd, 1) := by decide +kernel
theorem d_Mo_eight_18 : decode b_Mo_eight 18 = .ok (.lstore 6, 2) := by decide +kernel
theorem d_Mo_eight_20 : decode b_Mo_eight 20 = .ok (.lload 6, 2) := by decide +kernel
theorem d_Mo_eight_22 : decode b_Mo_eight 22 = .ok (.lconst 0, 1) := by decide +kernel
theorem d_Mo_eight_23 : decode b_Mo_eight 23 = .ok (.lcmp, 1) := by decide +kernel
theorem d_Mo_eight_24 : decode b_Mo_eight 24 = .ok (.ifCond .lt 28, 3) := by decide +kernel
theorem d_Mo_eight_27 : decode b_Mo_eight 27 = .ok (.lload 6, 2) := by decide +kernel
theorem d_Mo_eight_29 : decode b_Mo_eight 29 = .ok (.iload_n 1, 1) := by decide +kernel
theorem d_Mo_eight_30 : decode b_Mo_eight 30 = .ok (.i2l, 1) := by decide +kernel
theorem d_Mo_eight_31 : decode b_Mo_eight 31 = .ok (.lcmp, 1) := by decide +kernel
theorem d_Mo_eight_32 : decode b_Mo_eight 32 = .ok (.ifCond .ge 20, 3) := by decide +kernel
theorem d_Mo_eight_35 : decode b_Mo_eight 35 = .ok (.lload_n 3, 1) := by decide +kernel
theorem d_Mo_eight_36 : decode b_Mo_eight 36 = .ok (.aload_n 0, 1) := by decide +kernel
theorem d_Mo_eight_37 : decode b_Mo_eight 37 = .ok (.lload 6, 2) := by decide +kernel
theorem d_Mo_eight_39 : decode b_Mo_eight 39 = .ok (.l2i, 1) := by decide +kernel
theorem d_Mo_eight_40 : decode b_Mo_eight 40 = .ok (.iaload, 1) := by decide +kernel
theorem d_Mo_eight_41 : decode b_Mo_eight 41 = .ok (.i2l, 1) := by decide +kernel
theorem d_Mo_eight_42 : decode b_Mo_eight 42 = .ok (.bipush 8, 2) := by decide +kernel
theorem d_Mo_eight_44 : decode b_Mo_eight 44 = .ok (.iload 5, 2) := by decide +kernel
theorem d_Mo_eight_46 : decode b_Mo_eight 46 = .ok (.imul, 1) := by decide +kernel
theorem d_Mo_eight_47 : decode b_Mo_eight 47 = .ok (.lshl, 1) := by decide +kernel
theorem d_Mo_eight_48 : decode b_Mo_eight 48 = .ok (.lor, 1) := by decide +kernel
theorem d_Mo_eight_49 : decode b_Mo_eight 49 = .ok (.goto 4, 3) := by decide +kernel
theorem d_Mo_eight_52 : decode b_Mo_eight 52 = .ok (.lload_n 3, 1) := by decide +kernel
theorem d_Mo_eight_53 : decode b_Mo_eight 53 = .ok (.lstore_n 3, 1) := by decide +kernel
theorem d_Mo_eight_54 : decode b_Mo_eight 54 = .ok (.iinc 5 1, 3) := by decide +kernel
theorem d_Mo_eight_57 : decode b_Mo_eight 57 = .ok (.goto (-52), 3) := by decide +kernel
theorem d_Mo_eight_60 : decode b_Mo_eight 60 = .ok (.lload_n 3, 1) := by decide +kernel
theorem d_Mo_eight_61 : decode b_Mo_eight 61 = .ok (.lreturn, 1) := by decide +kernel
theorem d_Mo_packet_0 : decode b_Mo_packet 0 = .ok (.aload_n 0, 1) := by decide +kernel
theorem d_Mo_packet_1 : decode b_Mo_packet 1 = .ok (.iconst 0, 1) := by decide +kernel
theorem d_Mo_packet_2 : decode b_Mo_packet 2 = .ok (.putfield 94, 3) := by decide +kernel
theorem d_Mo_packet_5 : decode b_Mo_packet 5 = .ok (.aload_n 0, 1) := by decide +kernel
theorem d_Mo_packet_6 : decode b_Mo_packet 6 = .ok (.getfield 60, 3) := by decide +kernel
theorem d_Mo_packet_9 : decode b_Mo_packet 9 = .ok (.aload_n 0, 1) := by decide +kernel
theorem d_Mo_packet_10 : decode b_Mo_packet 10 = .ok (.getfield 151, 3) := by decide +kernel
theorem d_Mo_packet_13 : decode b_Mo_packet 13 = .ok (.iload_n 1, 1) := by decide +kernel
theorem d_Mo_packet_14 : decode b_Mo_packet 14 = .ok (.invokestatic 164, 3) := by decide +kernel
theorem d_Mo_packet_17 : decode b_Mo_packet 17 = .ok (.lreturn, 1) := by decide +kernel
theorem d_Mo_spoil_0 : decode b_Mo_spoil 0 = .ok (.aload_n 0, 1) := by decide +kernel
theorem d_Mo_spoil_1 : decode b_Mo_spoil 1 = .ok (.iload_n 1, 1) := by decide +kernel
theorem d_Mo_spoil_2 : decode b_Mo_spoil 2 = .ok (.ifCond .lt 11, 3) := by decide +kernel
theorem d_Mo_spoil_5 : decode b_Mo_spoil 5 = .ok (.iload_n 1, 1) := by decide +kernel
theorem d_Mo_spoil_6 : decode b_Mo_spoil 6 = .ok (.aload_n 0, 1) := by decide +kernel
theorem d_Mo_spoil_7 : decode b_Mo_spoil 7 = .ok (.getfield 151, 3) := by decide +kernel
theorem d_Mo_spoil_10 : decode b_Mo_spoil 10 = .ok (.if_icmp .lt 7, 3) := by decide +kernel
theorem d_Mo_spoil_13 : decode b_Mo_spoil 13 = .ok (.iconst 1, 1) := by decide +kernel
theorem d_Mo_spoil_14 : decode b_Mo_spoil 14 = .ok (.goto 19, 3) := by decide +kernel
theorem d_Mo_spoil_17 : decode b_Mo_spoil 17 = .ok (.iload_n 2, 1) := by decide +kernel
theorem d_Mo_spoil_18 : decode b_Mo_spoil 18 = .ok (.ifCond .lt 10, 3) := by decide +kernel
theorem d_Mo_spoil_21 : decode b_Mo_spoil 21 = .ok (.iload_n 2, 1) := by decide +kernel
theorem d_Mo_spoil_22 : decode b_Mo_spoil 22 = .ok (.sipush 255, 3) := by decide +kernel
theorem d_Mo_spoil_25 : decode b_Mo_spoil 25 = .ok (.if_icmp .le 7, 3) := by decide +kernel
theorem d_Mo_spoil_28 : decode b_Mo_spoil 28 = .ok (.iconst 2, 1) := by decide +kernel
theorem d_Mo_spoil_29 : decode b_Mo_spoil 29 = .ok (.goto 4, 3) := by decide +kernel
theorem d_Mo_spoil_32 : decode b_Mo_spoil 32 = .ok (.iconst 0, 1) := by decide +kernel
theorem d_Mo_spoil_33 : decode b_Mo_spoil 33 = .ok (.putfield 94, 3) := by decide +kernel
theorem d_Mo_spoil_36 : decode b_Mo_spoil 36 = .ok (.aload_n 0, 1) := by decide +kernel
theorem d_Mo_spoil_37 : decode b_Mo_spoil 37 = .ok (.getfield 94, 3) := by decide +kernel
theorem d_Mo_spoil_40 : decode b_Mo_spoil 40 = .ok (.ifCond .le 5, 3) := by decide +kernel
theorem d_Mo_spoil_43 : decode b_Mo_spoil 43 = .ok (.iconst 0, 1) := by decide +kernel
theorem d_Mo_spoil_44 : decode b_Mo_spoil 44 = .ok (.ireturn, 1) := by decide +kernel
theorem d_Mo_spoil_45 : decode b_Mo_spoil 45 = .ok (.aload_n 0, 1) := by decide +kernel
theorem d_Mo_spoil_46 : decode b_Mo_spoil 46 = .ok (.getfield 60, 3) := by decide +kernel
theorem d_Mo_spoil_49 : decode b_Mo_spoil 49 = .ok (.iload_n 1, 1) := by decide +kernel
theorem d_Mo_spoil_50 : decode b_Mo_spoil 50 = .ok (.iaload, 1) := by decide +kernel
theorem d_Mo_spoil_51 : decode b_Mo_spoil 51 = .ok (.istore_n 3, 1) := by decide +kernel
theorem d_Mo_spoil_52 : decode b_Mo_spoil 52 = .ok (.aload_n 0, 1) := by decide +kernel
theorem d_Mo_spoil_53 : decode b_Mo_spoil 53 = .ok (.getfield 60, 3) := by decide +kernel
theorem d_Mo_spoil_56 : decode b_Mo_spoil 56 = .ok (.iload_n 1, 1) := by decide +kernel
theorem d_Mo_spoil_57 : decode b_Mo_spoil 57 = .ok (.iload_n 2, 1) := by decide +kernel
theorem d_Mo_spoil_58 : decode b_Mo_spoil 58 = .ok (.iastore, 1) := by decide +kernel
theorem d_Mo_spoil_59 : decode b_Mo_spoil 59 = .ok (.iload_n 3, 1) := by decide +kernel
theorem d_Mo_spoil_60 : decode b_Mo_spoil 60 = .ok (.ireturn, 1) := by decide +kernel
theorem d_Mo_cut_0 : decode b_Mo_cut 0 = .ok (.aload_n 0, 1) := by decide +kernel
theorem d_Mo_cut_1 : decode b_Mo_cut 1 = .ok (.iload_n 1, 1) := by decide +kernel
theorem d_Mo_cut_2 : decode b_Mo_cut 2 = .ok (.ifCond .lt 11, 3) := by decide +kernel
theorem d_Mo_cut_5 : decode b_Mo_cut 5 = .ok (.iload_n 1, 1) := by decide +kernel
theorem d_Mo_cut_6 : decode b_Mo_cut 6 = .ok (.aload_n 0, 1) := by decide +kernel
theorem d_Mo_cut_7 : decode b_Mo_cut 7 = .ok (.getfield 151, 3) := by decide +kernel
theorem d_Mo_cut_10 : decode b_Mo_cut 10 = .ok (.if_icmp .le 7, 3) := by decide +kernel
theorem d_Mo_cut_13 : decode b_Mo_cut 13 = .ok (.iconst 1, 1) := by decide +kernel
theorem d_Mo_cut_14 : decode b_Mo_cut 14 = .ok (.goto 4, 3) := by decide +kernel
theorem d_Mo_cut_17 : decode b_Mo_cut 17 = .ok (.iconst 0, 1) := by decide +kernel
theorem d_Mo_cut_18 : decode b_Mo_cut 18 = .ok (.putfield 94, 3) := by decide +kernel
theorem d_Mo_cut_21 : decode b_Mo_cut 21 = .ok (.aload_n 0, 1) := by decide +kernel
theorem d_Mo_cut_22 : decode b_Mo_cut 22 = .ok (.aload_n 0, 1) := by decide +kernel
theorem d_Mo_cut_23 : decode b_Mo_cut 23 = .ok (.getfield 94, 3) := by decide +kernel
theorem d_Mo_cut_26 : decode b_Mo_cut 26 = .ok (.ifCond .le 10, 3) := by decide +kernel
theorem d_Mo_cut_29 : decode b_Mo_cut 29 = .ok (.aload_n 0, 1) := by decide +kernel
theorem d_Mo_cut_30 : decode b_Mo_cut 30 = .ok (.getfield 151, 3) := by decide +kernel
theorem d_Mo_cut_33 : decode b_Mo_cut 33 = .ok (.goto 4, 3) := by decide +kernel
theorem d_Mo_cut_36 : decode b_Mo_cut 36 = .ok (.iload_n 1, 1) := by decide +kernel
theorem d_Mo_cut_37 : decode b_Mo_cut 37 = .ok (.putfield 151, 3) := by decide +kernel
theorem d_Mo_cut_40 : decode b_Mo_cut 40 = .ok (.return_, 1) := by decide +kernel
theorem d_Mo_keep_0 : decode b_Mo_keep 0 = .ok (.aload_n 0, 1) := by decide +kernel
theorem d_Mo_keep_1 : decode b_Mo_keep 1 = .ok (.iload_n 1, 1) := by decide +kernel
theorem d_Mo_keep_2 : decode b_Mo_keep 2 = .ok (.ifCond .lt 9, 3) := by decide +kernel
theorem d_Mo_keep_5 : decode b_Mo_keep 5 = .ok (.iload_n 1, 1) := by decide +kernel
theorem d_Mo_keep_6 : decode b_Mo_keep 6 = .ok (.bipush 7, 2) := by decide +kernel
theorem d_Mo_keep_8 : decode b_Mo_keep 8 = .ok (.if_icmp .le 7, 3) := by decide +kernel
theorem d_Mo_keep_11 : decode b_Mo_keep 11 = .ok (.iconst 1, 1) := by decide +kernel
theorem d_Mo_keep_12 : decode b_Mo_keep 12 = .ok (.goto 4, 3) := by decide +kernel
theorem d_Mo_keep_15 : decode b_Mo_keep 15 = .ok (.iconst 0, 1) := by decide +kernel
theorem d_Mo_keep_16 : decode b_Mo_keep 16 = .ok (.putfield 94, 3) := by decide +kernel
theorem d_Mo_keep_19 : decode b_Mo_keep 19 = .ok (.aload_n 0, 1) := by decide +kernel
theorem d_Mo_keep_20 : decode b_Mo_keep 20 = .ok (.getfield 94, 3) := by decide +kernel
theorem d_Mo_keep_23 : decode b_Mo_keep 23 = .ok (.ifCond .ne 47, 3) := by decide +kernel
theorem d_Mo_keep_26 : decode b_Mo_keep 26 = .ok (.aload_n 0, 1) := by decide +kernel
theorem d_Mo_keep_27 : decode b_Mo_keep 27 = .ok (.getfield 66, 3) := by decide +kernel
theorem d_Mo_keep_30 : decode b_Mo_keep 30 = .ok (.iload_n 1, 1) := by decide +kernel
theorem d_Mo_keep_31 : decode b_Mo_keep 31 = .ok (.aload_n 0, 1) := by decide +kernel
theorem d_Mo_keep_32 : decode b_Mo_keep 32 = .ok (.getfield 151, 3) := by decide +kernel
theorem d_Mo_keep_35 : decode b_Mo_keep 35 = .ok (.iastore, 1) := by decide +kernel
theorem d_Mo_keep_36 : decode b_Mo_keep 36 = .ok (.iconst 0, 1) := by decide +kernel
theorem d_Mo_keep_37 : decode b_Mo_keep 37 = .ok (.istore_n 2, 1) := by decide +kernel
theorem d_Mo_keep_38 : decode b_Mo_keep 38 = .ok (.iload_n 2, 1) := by decide +kernel
theorem d_Mo_keep_39 : decode b_Mo_keep 39 = .ok (.aload_n 0, 1) := by decide +kernel
theorem d_Mo_keep_40 : decode b_Mo_keep 40 = .ok (.getfield 151, 3) := by decide +kernel
theorem d_Mo_keep_43 : decode b_Mo_keep 43 = .ok (.if_icmp .ge 27, 3) := by decide +kernel
theorem d_Mo_keep_46 : decode b_Mo_keep 46 = .ok (.aload_n 0, 1) := by decide +kernel
theorem d_Mo_keep_47 : decode b_Mo_keep 47 = .ok (.getfield 63, 3) := by decide +kernel
theorem d_Mo_keep_50 : decode b_Mo_keep 50 = .ok (.sipush 240, 3) := by decide +kernel
theorem d_Mo_keep_53 : decode b_Mo_keep 53 = .ok (.iload_n 1, 1) := by decide +kernel
theorem d_Mo_keep_54 : decode b_Mo_keep 54 = .ok (.imul, 1) := by decide +kernel
theorem d_Mo_keep_55 : decode b_Mo_keep 55 = .ok (.iload_n 2, 1) := by decide +kernel
theorem d_Mo_keep_56 : decode b_Mo_keep 56 = .ok (.iadd, 1) := by decide +kernel
theorem d_Mo_keep_57 : decode b_Mo_keep 57 = .ok (.aload_n 0, 1) := by decide +kernel
theorem d_Mo_keep_58 : decode b_Mo_keep 58 = .ok (.getfield 60, 3) := by decide +kernel
theorem d_Mo_keep_61 : decode b_Mo_keep 61 = .ok (.iload_n 2, 1) := by decide +kernel
theorem d_Mo_keep_62 : decode b_Mo_keep 62 = .ok (.iaload, 1) := by decide +kernel
theorem d_Mo_keep_63 : decode b_Mo_keep 63 = .ok (.iastore, 1) := by decide +kernel
theorem d_Mo_keep_64 : decode b_Mo_keep 64 = .ok (.iinc 2 1, 3) := by decide +kernel
theorem d_Mo_keep_67 : decode b_Mo_keep 67 = .ok (.goto (-29), 3) := by decide +kernel
theorem d_Mo_keep_70 : decode b_Mo_keep 70 = .ok (.return_, 1) := by decide +kernel
theorem d_Mo_bring_0 : decode b_Mo_bring 0 = .ok (.aload_n 0, 1) := by decide +kernel
theorem d_Mo_bring_1 : decode b_Mo_bring 1 = .ok (.iload_n 1, 1) := by decide +kernel
theorem d_Mo_bring_2 : decode b_Mo_bring 2 = .ok (.ifCond .lt 9, 3) := by decide +kernel
theorem d_Mo_bring_5 : decode b_Mo_bring 5 = .ok (.iload_n 1, 1) := by decide +kernel
theorem d_Mo_bring_6 : decode b_Mo_bring 6 = .ok (.bipush 7, 2) := by decide +kernel
theorem d_Mo_bring_8 : decode b_Mo_bring 8 = .ok (.if_icmp .le 7, 3) := by decide +kernel
theorem d_Mo_bring_11 : decode b_Mo_bring 11 = .ok (.iconst 1, 1) := by decide +kernel
theorem d_Mo_bring_12 : decode b_Mo_bring 12 = .ok (.goto 4, 3) := by decide +kernel
theorem d_Mo_bring_15 : decode b_Mo_bring 15 = .ok (.iconst 0, 1) := by decide +kernel
theorem d_Mo_bring_16 : decode b_Mo_bring 16 = .ok (.putfield 94, 3) := by decide +kernel
theorem d_Mo_bring_19 : decode b_Mo_bring 19 = .ok (.aload_n 0, 1) := by decide +kernel
theorem d_Mo_bring_20 : decode b_Mo_bring 20 = .ok (.getfield 94, 3) := by decide +kernel
theorem d_Mo_bring_23 : decode b_Mo_bring 23 = .ok (.ifCond .le 5, 3) := by decide +kernel
theorem d_Mo_bring_26 : decode b_Mo_bring 26 = .ok (.iconst 0, 1) := by decide +kernel
theorem d_Mo_bring_27 : decode b_Mo_bring 27 = .ok (.ireturn, 1) := by decide +kernel
theorem d_Mo_bring_28 : decode b_Mo_bring 28 = .ok (.aload_n 0, 1) := by decide +kernel
theorem d_Mo_bring_29 : decode b_Mo_bring 29 = .ok (.getfield 66, 3) := by decide +kernel
theorem d_Mo_bring_32 : decode b_Mo_bring 32 = .ok (.iload_n 1, 1) := by decide +kernel
theorem d_Mo_bring_33 : decode b_Mo_bring 33 = .ok (.iaload, 1) := by decide +kernel
theorem d_Mo_bring_34 : decode b_Mo_bring 34 = .ok (.ifCond .ge 5, 3) := by decide +kernel
theorem d_Mo_bring_37 : decode b_Mo_bring 37 = .ok (.iconst (-1), 1) := by decide +kernel
theorem d_Mo_bring_38 : decode b_Mo_bring 38 = .ok (.ireturn, 1) := by decide +kernel
theorem d_Mo_bring_39 : decode b_Mo_bring 39 = .ok (.aload_n 0, 1) := by decide +kernel
theorem d_Mo_bring_40 : decode b_Mo_bring 40 = .ok (.aload_n 0, 1) := by decide +kernel
theorem d_Mo_bring_41 : decode b_Mo_bring 41 = .ok (.getfield 66, 3) := by decide +kernel
theorem d_Mo_bring_44 : decode b_Mo_bring 44 = .ok (.iload_n 1, 1) := by decide +kernel
theorem d_Mo_bring_45 : decode b_Mo_bring 45 = .ok (.iaload, 1) := by decide +kernel
theorem d_Mo_bring_46 : decode b_Mo_bring 46 = .ok (.putfield 151, 3) := by decide +kernel
theorem d_Mo_bring_49 : decode b_Mo_bring 49 = .ok (.iconst 0, 1) := by decide +kernel
theorem d_Mo_bring_50 : decode b_Mo_bring 50 = .ok (.istore_n 2, 1) := by decide +kernel
theorem d_Mo_bring_51 : decode b_Mo_bring 51 = .ok (.iload_n 2, 1) := by decide +kernel
theorem d_Mo_bring_52 : decode b_Mo_bring 52 = .ok (.aload_n 0, 1) := by decide +kernel
theorem d_Mo_bring_53 : decode b_Mo_bring 53 = .ok (.getfield 151, 3) := by decide +kernel
theorem d_Mo_bring_56 : decode b_Mo_bring 56 = .ok (.if_icmp .ge 27, 3) := by decide +kernel
theorem d_Mo_bring_59 : decode b_Mo_bring 59 = .ok (.aload_n 0, 1) := by decide +kernel
theorem d_Mo_bring_60 : decode b_Mo_bring 60 = .ok (.getfield 60, 3) := by decide +kernel
theorem d_Mo_bring_63 : decode b_Mo_bring 63 = .ok (.iload_n 2, 1) := by decide +kernel
theorem d_Mo_bring_64 : decode b_Mo_bring 64 = .ok (.aload_n 0, 1) := by decide +kernel
theorem d_Mo_bring_65 : decode b_Mo_bring 65 = .ok (.getfield 63, 3) := by decide +kernel
theorem d_Mo_bring_68 : decode b_Mo_bring 68 = .ok (.sipush 240, 3) := by decide +kernel
theorem d_Mo_bring_71 : decode b_Mo_bring 71 = .ok (.iload_n 1, 1) := by decide +kernel
theorem d_Mo_bring_72 : decode b_Mo_bring 72 = .ok (.imul, 1) := by decide +kernel
theorem d_Mo_bring_73 : decode b_Mo_bring 73 = .ok (.iload_n 2, 1) := by decide +kernel
theorem d_Mo_bring_74 : decode b_Mo_bring 74 = .ok (.iadd, 1) := by decide +kernel
theorem d_Mo_bring_75 : decode b_Mo_bring 75 = .ok (.iaload, 1) := by decide +kernel
theorem d_Mo_bring_76 : decode b_Mo_bring 76 = .ok (.iastore, 1) := by decide +kernel
theorem d_Mo_bring_77 : decode b_Mo_bring 77 = .ok (.iinc 2 1, 3) := by decide +kernel
theorem d_Mo_bring_80 : decode b_Mo_bring 80 = .ok (.goto (-29), 3) := by decide +kernel
theorem d_Mo_bring_83 : decode b_Mo_bring 83 = .ok (.aload_n 0, 1) := by decide +kernel
theorem d_Mo_bring_84 : decode b_Mo_bring 84 = .ok (.getfield 151, 3) := by decide +kernel
theorem d_Mo_bring_87 : decode b_Mo_bring 87 = .ok (.ireturn, 1) := by decide +kernel
theorem d_Mo_fourBytes_0 : decode b_Mo_fourBytes 0 = .ok (.aload_n 0, 1) := by decide +kernel
theorem d_Mo_fourBytes_1 : decode b_Mo_fourBytes 1 = .ok (.getfield 60, 3) := by decide +kernel
theorem d_Mo_fourBytes_4 : decode b_Mo_fourBytes 4 = .ok (.iload_n 1, 1) := by decide +kernel
theorem d_Mo_fourBytes_5 : decode b_Mo_fourBytes 5 = .ok (.iaload, 1) := by decide +kernel
theorem d_Mo_fourBytes_6 : decode b_Mo_fourBytes 6 = .ok (.i2l, 1) := by decide +kernel
theorem d_Mo_fourBytes_7 : decode b_Mo_fourBytes 7 = .ok (.bipush 24, 2) := by decide +kernel
theorem d_Mo_fourBytes_9 : decode b_Mo_fourBytes 9 = .ok (.lshl, 1) := by decide +kernel
theorem d_Mo_fourBytes_10 : decode b_Mo_fourBytes 10 = .ok (.aload_n 0, 1) := by decide +kernel
theorem d_Mo_fourBytes_11 : decode b_Mo_fourBytes 11 = .ok (.getfield 60, 3) := by decide +kernel
theorem d_Mo_fourBytes_14 : decode b_Mo_fourBytes 14 = .ok (.iload_n 1, 1) := by decide +kernel
theorem d_Mo_fourBytes_15 : decode b_Mo_fourBytes 15 = .ok (.iconst 1, 1) := by decide +kernel
theorem d_Mo_fourBytes_16 : decode b_Mo_fourBytes 16 = .ok (.iadd, 1) := by decide +kernel
theorem d_Mo_fourBytes_17 : decode b_Mo_fourBytes 17 = .ok (.iaload, 1) := by decide +kernel
theorem d_Mo_fourBytes_18 : decode b_Mo_fourBytes 18 = .ok (.bipush 16, 2) := by decide +kernel
theorem d_Mo_fourBytes_20 : decode b_Mo_fourBytes 20 = .ok (.ishl, 1) := by decide +kernel
theorem d_Mo_fourBytes_21 : decode b_Mo_fourBytes 21 = .ok (.i2l, 1) := by decide +kernel
theorem d_Mo_fourBytes_22 : decode b_Mo_fourBytes 22 = .ok (.lor, 1) := by decide +kernel
theorem d_Mo_fourBytes_23 : decode b_Mo_fourBytes 23 = .ok (.aload_n 0, 1) := by decide +kernel
theorem d_Mo_fourBytes_24 : decode b_Mo_fourBytes 24 = .ok (.getfield 60, 3) := by decide +kernel
theorem d_Mo_fourBytes_27 : decode b_Mo_fourBytes 27 = .ok (.iload_n 1, 1) := by decide +kernel
theorem d_Mo_fourBytes_28 : decode b_Mo_fourBytes 28 = .ok (.iconst 2, 1) := by decide +kernel
theorem d_Mo_fourBytes_29 : decode b_Mo_fourBytes 29 = .ok (.iadd, 1) := by decide +kernel
theorem d_Mo_fourBytes_30 : decode b_Mo_fourBytes 30 = .ok (.iaload, 1) := by decide +kernel
theorem d_Mo_fourBytes_31 : decode b_Mo_fourBytes 31 = .ok (.bipush 8, 2) := by decide +kernel
theorem d_Mo_fourBytes_33 : decode b_Mo_fourBytes 33 = .ok (.ishl, 1) := by decide +kernel
theorem d_Mo_fourBytes_34 : decode b_Mo_fourBytes 34 = .ok (.i2l, 1) := by decide +kernel
theorem d_Mo_fourBytes_35 : decode b_Mo_fourBytes 35 = .ok (.lor, 1) := by decide +kernel
theorem d_Mo_fourBytes_36 : decode b_Mo_fourBytes 36 = .ok (.aload_n 0, 1) := by decide +kernel
theorem d_Mo_fourBytes_37 : decode b_Mo_fourBytes 37 = .ok (.getfield 60, 3) := by decide +kernel
theorem d_Mo_fourBytes_40 : decode b_Mo_fourBytes 40 = .ok (.iload_n 1, 1) := by decide +kernel
theorem d_Mo_fourBytes_41 : decode b_Mo_fourBytes 41 = .ok (.iconst 3, 1) := by decide +kernel
theorem d_Mo_fourBytes_42 : decode b_Mo_fourBytes 42 = .ok (.iadd, 1) := by decide +kernel
theorem d_Mo_fourBytes_43 : decode b_Mo_fourBytes 43 = .ok (.iaload, 1) := by decide +kernel
theorem d_Mo_fourBytes_44 : decode b_Mo_fourBytes 44 = .ok (.i2l, 1) := by decide +kernel
theorem d_Mo_fourBytes_45 : decode b_Mo_fourBytes 45 = .ok (.lor, 1) := by decide +kernel
theorem d_Mo_fourBytes_46 : decode b_Mo_fourBytes 46 = .ok (.lreturn, 1) := by decide +kernel
theorem d_Mo_isGiven_0 : decode b_Mo_isGiven 0 = .ok (.iconst 0, 1) := by decide +kernel
theorem d_Mo_isGiven_1 : decode b_Mo_isGiven 1 = .ok (.istore 4, 2) := by decide +kernel
theorem d_Mo_isGiven_3 : decode b_Mo_isGiven 3 = .ok (.iload 4, 2) := by decide +kernel
theorem d_Mo_isGiven_5 : decode b_Mo_isGiven 5 = .ok (.aload_n 0, 1) := by decide +kernel
theorem d_Mo_isGiven_6 : decode b_Mo_isGiven 6 = .ok (.getfield 54, 3) := by decide +kernel
theorem d_Mo_isGiven_9 : decode b_Mo_isGiven 9 = .ok (.iload_n 1, 1) := by decide +kernel
theorem d_Mo_isGiven_10 : decode b_Mo_isGiven 10 = .ok (.iaload, 1) := by decide +kernel
theorem d_Mo_isGiven_11 : decode b_Mo_isGiven 11 = .ok (.if_icmp .ge 29, 3) := by decide +kernel
theorem d_Mo_isGiven_14 : decode b_Mo_isGiven 14 = .ok (.aload_n 0, 1) := by decide +kernel
theorem d_Mo_isGiven_15 : decode b_Mo_isGiven 15 = .ok (.getfield 51, 3) := by decide +kernel
theorem d_Mo_isGiven_18 : decode b_Mo_isGiven 18 = .ok (.sipush 1100, 3) := by decide +kernel
theorem d_Mo_isGiven_21 : decode b_Mo_isGiven 21 = .ok (.iload_n 1, 1) := by decide +kernel
theorem d_Mo_isGiven_22 : decode b_Mo_isGiven 22 = .ok (.imul, 1) := by decide +kernel
theorem d_Mo_isGiven_23 : decode b_Mo_isGiven 23 = .ok (.iload 4, 2) := by decide +kernel
theorem d_Mo_isGiven_25 : decode b_Mo_isGiven 25 = .ok (.iadd, 1) := by decide +kernel
theorem d_Mo_isGiven_26 : decode b_Mo_isGiven 26 = .ok (.laload, 1) := by decide +kernel
theorem d_Mo_isGiven_27 : decode b_Mo_isGiven 27 = .ok (.lload_n 2, 1) := by decide +kernel
theorem d_Mo_isGiven_28 : decode b_Mo_isGiven 28 = .ok (.lcmp, 1) := by decide +kernel
theorem d_Mo_isGiven_29 : decode b_Mo_isGiven 29 = .ok (.ifCond .ne 5, 3) := by decide +kernel
theorem d_Mo_isGiven_32 : decode b_Mo_isGiven 32 = .ok (.iconst 1, 1) := by decide +kernel
theorem d_Mo_isGiven_33 : decode b_Mo_isGiven 33 = .ok (.ireturn, 1) := by decide +kernel
theorem d_Mo_isGiven_34 : decode b_Mo_isGiven 34 = .ok (.iinc 4 1, 3) := by decide +kernel
theorem d_Mo_isGiven_37 : decode b_Mo_isGiven 37 = .ok (.goto (-34), 3) := by decide +kernel
theorem d_Mo_isGiven_40 : decode b_Mo_isGiven 40 = .ok (.iconst 0, 1) := by decide +kernel
theorem d_Mo_isGiven_41 : decode b_Mo_isGiven 41 = .ok (.ireturn, 1) := by decide +kernel
theorem d_Mo_give_0 : decode b_Mo_give 0 = .ok (.aload_n 0, 1) := by decide +kernel
theorem d_Mo_give_1 : decode b_Mo_give 1 = .ok (.getfield 42, 3) := by decide +kernel
theorem d_Mo_give_4 : decode b_Mo_give 4 = .ok (.iload_n 1, 1) := by decide +kernel
theorem d_Mo_give_5 : decode b_Mo_give 5 = .ok (.dup2, 1) := by decide +kernel
theorem d_Mo_give_6 : decode b_Mo_give 6 = .ok (.laload, 1) := by decide +kernel
theorem d_Mo_give_7 : decode b_Mo_give 7 = .ok (.lconst 1, 1) := by decide +kernel
theorem d_Mo_give_8 : decode b_Mo_give 8 = .ok (.ladd, 1) := by decide +kernel
theorem d_Mo_give_9 : decode b_Mo_give 9 = .ok (.lastore, 1) := by decide +kernel
theorem d_Mo_give_10 : decode b_Mo_give 10 = .ok (.aload_n 0, 1) := by decide +kernel
theorem d_Mo_give_11 : decode b_Mo_give 11 = .ok (.getfield 39, 3) := by decide +kernel
theorem d_Mo_give_14 : decode b_Mo_give 14 = .ok (.iload_n 1, 1) := by decide +kernel
theorem d_Mo_give_15 : decode b_Mo_give 15 = .ok (.lload_n 2, 1) := by decide +kernel
theorem d_Mo_give_16 : decode b_Mo_give 16 = .ok (.aload_n 0, 1) := by decide +kernel
theorem d_Mo_give_17 : decode b_Mo_give 17 = .ok (.getfield 39, 3) := by decide +kernel
theorem d_Mo_give_20 : decode b_Mo_give 20 = .ok (.iload_n 1, 1) := by decide +kernel
theorem d_Mo_give_21 : decode b_Mo_give 21 = .ok (.laload, 1) := by decide +kernel
theorem d_Mo_give_22 : decode b_Mo_give 22 = .ok (.lcmp, 1) := by decide +kernel
theorem d_Mo_give_23 : decode b_Mo_give 23 = .ok (.ifCond .le 7, 3) := by decide +kernel
theorem d_Mo_give_26 : decode b_Mo_give 26 = .ok (.lload_n 2, 1) := by decide +kernel
theorem d_Mo_give_27 : decode b_Mo_give 27 = .ok (.goto 9, 3) := by decide +kernel
theorem d_Mo_give_30 : decode b_Mo_give 30 = .ok (.aload_n 0, 1) := by decide +kernel
theorem d_Mo_give_31 : decode b_Mo_give 31 = .ok (.getfield 39, 3) := by decide +kernel
theorem d_Mo_give_34 : decode b_Mo_give 34 = .ok (.iload_n 1, 1) := by decide +kernel
theorem d_Mo_give_35 : decode b_Mo_give 35 = .ok (.laload, 1) := by decide +kernel
theorem d_Mo_give_36 : decode b_Mo_give 36 = .ok (.lastore, 1) := by decide +kernel
theorem d_Mo_give_37 : decode b_Mo_give 37 = .ok (.iconst 0, 1) := by decide +kernel
theorem d_Mo_give_38 : decode b_Mo_give 38 = .ok (.istore 4, 2) := by decide +kernel
theorem d_Mo_give_40 : decode b_Mo_give 40 = .ok (.iconst 0, 1) := by decide +kernel
theorem d_Mo_give_41 : decode b_Mo_give 41 = .ok (.istore 5, 2) := by decide +kernel
theorem d_Mo_give_43 : decode b_Mo_give 43 = .ok (.iload 5, 2) := by decide +kernel
theorem d_Mo_give_45 : decode b_Mo_give 45 = .ok (.aload_n 0, 1) := by decide +kernel
theorem d_Mo_give_46 : decode b_Mo_give 46 = .ok (.getfield 54, 3) := by decide +kernel
theorem d_Mo_give_49 : decode b_Mo_give 49 = .ok (.iload_n 1, 1) := by decide +kernel
theorem d_Mo_give_50 : decode b_Mo_give 50 = .ok (.iaload, 1) := by decide +kernel

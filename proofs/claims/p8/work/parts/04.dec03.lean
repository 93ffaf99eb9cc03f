theorem d_Gp_isFillRight_12 : decode b_Gp_isFillRight 12 = .ok (.iload_n 2, 1) := by decide +kernel
theorem d_Gp_isFillRight_13 : decode b_Gp_isFillRight 13 = .ok (.ifCond .ge 5, 3) := by decide +kernel
theorem d_Gp_isFillRight_16 : decode b_Gp_isFillRight 16 = .ok (.iconst 0, 1) := by decide +kernel
theorem d_Gp_isFillRight_17 : decode b_Gp_isFillRight 17 = .ok (.ireturn, 1) := by decide +kernel
theorem d_Gp_isFillRight_18 : decode b_Gp_isFillRight 18 = .ok (.iconst 0, 1) := by decide +kernel
theorem d_Gp_isFillRight_19 : decode b_Gp_isFillRight 19 = .ok (.istore_n 3, 1) := by decide +kernel
theorem d_Gp_isFillRight_20 : decode b_Gp_isFillRight 20 = .ok (.iload_n 3, 1) := by decide +kernel
theorem d_Gp_isFillRight_21 : decode b_Gp_isFillRight 21 = .ok (.iload_n 1, 1) := by decide +kernel
theorem d_Gp_isFillRight_22 : decode b_Gp_isFillRight 22 = .ok (.if_icmp .ge 28, 3) := by decide +kernel
theorem d_Gp_isFillRight_25 : decode b_Gp_isFillRight 25 = .ok (.aload_n 0, 1) := by decide +kernel
theorem d_Gp_isFillRight_26 : decode b_Gp_isFillRight 26 = .ok (.getfield 35, 3) := by decide +kernel
theorem d_Gp_isFillRight_29 : decode b_Gp_isFillRight 29 = .ok (.iload_n 2, 1) := by decide +kernel
theorem d_Gp_isFillRight_30 : decode b_Gp_isFillRight 30 = .ok (.iload_n 3, 1) := by decide +kernel
theorem d_Gp_isFillRight_31 : decode b_Gp_isFillRight 31 = .ok (.iadd, 1) := by decide +kernel
theorem d_Gp_isFillRight_32 : decode b_Gp_isFillRight 32 = .ok (.i2l, 1) := by decide +kernel
theorem d_Gp_isFillRight_33 : decode b_Gp_isFillRight 33 = .ok (.invokevirtual 132, 3) := by decide +kernel
theorem d_Gp_isFillRight_36 : decode b_Gp_isFillRight 36 = .ok (.iload_n 3, 1) := by decide +kernel
theorem d_Gp_isFillRight_37 : decode b_Gp_isFillRight 37 = .ok (.iconst 1, 1) := by decide +kernel
theorem d_Gp_isFillRight_38 : decode b_Gp_isFillRight 38 = .ok (.iadd, 1) := by decide +kernel
theorem d_Gp_isFillRight_39 : decode b_Gp_isFillRight 39 = .ok (.if_icmp .eq 5, 3) := by decide +kernel
theorem d_Gp_isFillRight_42 : decode b_Gp_isFillRight 42 = .ok (.iconst 0, 1) := by decide +kernel
theorem d_Gp_isFillRight_43 : decode b_Gp_isFillRight 43 = .ok (.ireturn, 1) := by decide +kernel
theorem d_Gp_isFillRight_44 : decode b_Gp_isFillRight 44 = .ok (.iinc 3 1, 3) := by decide +kernel
theorem d_Gp_isFillRight_47 : decode b_Gp_isFillRight 47 = .ok (.goto (-27), 3) := by decide +kernel
theorem d_Gp_isFillRight_50 : decode b_Gp_isFillRight 50 = .ok (.iconst 1, 1) := by decide +kernel
theorem d_Gp_isFillRight_51 : decode b_Gp_isFillRight 51 = .ok (.ireturn, 1) := by decide +kernel
theorem d_Mo_init_0 : decode b_Mo_init 0 = .ok (.aload_n 0, 1) := by decide +kernel
theorem d_Mo_init_1 : decode b_Mo_init 1 = .ok (.invokespecial 1, 3) := by decide +kernel
theorem d_Mo_init_4 : decode b_Mo_init 4 = .ok (.aload_n 0, 1) := by decide +kernel
theorem d_Mo_init_5 : decode b_Mo_init 5 = .ok (.sipush 256, 3) := by decide +kernel
theorem d_Mo_init_8 : decode b_Mo_init 8 = .ok (.newarray .int, 2) := by decide +kernel
theorem d_Mo_init_10 : decode b_Mo_init 10 = .ok (.putfield 7, 3) := by decide +kernel
theorem d_Mo_init_13 : decode b_Mo_init 13 = .ok (.aload_n 0, 1) := by decide +kernel
theorem d_Mo_init_14 : decode b_Mo_init 14 = .ok (.bipush 16, 2) := by decide +kernel
theorem d_Mo_init_16 : decode b_Mo_init 16 = .ok (.newarray .boolean, 2) := by decide +kernel
theorem d_Mo_init_18 : decode b_Mo_init 18 = .ok (.putfield 13, 3) := by decide +kernel
theorem d_Mo_init_21 : decode b_Mo_init 21 = .ok (.aload_n 0, 1) := by decide +kernel
theorem d_Mo_init_22 : decode b_Mo_init 22 = .ok (.bipush 16, 2) := by decide +kernel
theorem d_Mo_init_24 : decode b_Mo_init 24 = .ok (.newarray .int, 2) := by decide +kernel
theorem d_Mo_init_26 : decode b_Mo_init 26 = .ok (.putfield 17, 3) := by decide +kernel
theorem d_Mo_init_29 : decode b_Mo_init 29 = .ok (.aload_n 0, 1) := by decide +kernel
theorem d_Mo_init_30 : decode b_Mo_init 30 = .ok (.sipush 2816, 3) := by decide +kernel
theorem d_Mo_init_33 : decode b_Mo_init 33 = .ok (.newarray .int, 2) := by decide +kernel
theorem d_Mo_init_35 : decode b_Mo_init 35 = .ok (.putfield 20, 3) := by decide +kernel
theorem d_Mo_init_38 : decode b_Mo_init 38 = .ok (.aload_n 0, 1) := by decide +kernel
theorem d_Mo_init_39 : decode b_Mo_init 39 = .ok (.bipush 16, 2) := by decide +kernel
theorem d_Mo_init_41 : decode b_Mo_init 41 = .ok (.newarray .int, 2) := by decide +kernel
theorem d_Mo_init_43 : decode b_Mo_init 43 = .ok (.putfield 23, 3) := by decide +kernel
theorem d_Mo_init_46 : decode b_Mo_init 46 = .ok (.aload_n 0, 1) := by decide +kernel
theorem d_Mo_init_47 : decode b_Mo_init 47 = .ok (.bipush 16, 2) := by decide +kernel
theorem d_Mo_init_49 : decode b_Mo_init 49 = .ok (.newarray .int, 2) := by decide +kernel
theorem d_Mo_init_51 : decode b_Mo_init 51 = .ok (.putfield 26, 3) := by decide +kernel
theorem d_Mo_init_54 : decode b_Mo_init 54 = .ok (.aload_n 0, 1) := by decide +kernel
theorem d_Mo_init_55 : decode b_Mo_init 55 = .ok (.bipush 16, 2) := by decide +kernel
theorem d_Mo_init_57 : decode b_Mo_init 57 = .ok (.newarray .boolean, 2) := by decide +kernel
theorem d_Mo_init_59 : decode b_Mo_init 59 = .ok (.putfield 29, 3) := by decide +kernel
theorem d_Mo_init_62 : decode b_Mo_init 62 = .ok (.aload_n 0, 1) := by decide +kernel
theorem d_Mo_init_63 : decode b_Mo_init 63 = .ok (.bipush 16, 2) := by decide +kernel
theorem d_Mo_init_65 : decode b_Mo_init 65 = .ok (.newarray .long, 2) := by decide +kernel
theorem d_Mo_init_67 : decode b_Mo_init 67 = .ok (.putfield 32, 3) := by decide +kernel
theorem d_Mo_init_70 : decode b_Mo_init 70 = .ok (.aload_n 0, 1) := by decide +kernel
theorem d_Mo_init_71 : decode b_Mo_init 71 = .ok (.bipush 16, 2) := by decide +kernel
theorem d_Mo_init_73 : decode b_Mo_init 73 = .ok (.newarray .int, 2) := by decide +kernel
theorem d_Mo_init_75 : decode b_Mo_init 75 = .ok (.putfield 36, 3) := by decide +kernel
theorem d_Mo_init_78 : decode b_Mo_init 78 = .ok (.aload_n 0, 1) := by decide +kernel
theorem d_Mo_init_79 : decode b_Mo_init 79 = .ok (.bipush 16, 2) := by decide +kernel
theorem d_Mo_init_81 : decode b_Mo_init 81 = .ok (.newarray .long, 2) := by decide +kernel
theorem d_Mo_init_83 : decode b_Mo_init 83 = .ok (.putfield 39, 3) := by decide +kernel
theorem d_Mo_init_86 : decode b_Mo_init 86 = .ok (.aload_n 0, 1) := by decide +kernel
theorem d_Mo_init_87 : decode b_Mo_init 87 = .ok (.bipush 16, 2) := by decide +kernel
theorem d_Mo_init_89 : decode b_Mo_init 89 = .ok (.newarray .long, 2) := by decide +kernel
theorem d_Mo_init_91 : decode b_Mo_init 91 = .ok (.putfield 42, 3) := by decide +kernel
theorem d_Mo_init_94 : decode b_Mo_init 94 = .ok (.aload_n 0, 1) := by decide +kernel
theorem d_Mo_init_95 : decode b_Mo_init 95 = .ok (.bipush 16, 2) := by decide +kernel
theorem d_Mo_init_97 : decode b_Mo_init 97 = .ok (.newarray .int, 2) := by decide +kernel
theorem d_Mo_init_99 : decode b_Mo_init 99 = .ok (.putfield 45, 3) := by decide +kernel
theorem d_Mo_init_102 : decode b_Mo_init 102 = .ok (.aload_n 0, 1) := by decide +kernel
theorem d_Mo_init_103 : decode b_Mo_init 103 = .ok (.bipush 16, 2) := by decide +kernel
theorem d_Mo_init_105 : decode b_Mo_init 105 = .ok (.newarray .int, 2) := by decide +kernel
theorem d_Mo_init_107 : decode b_Mo_init 107 = .ok (.putfield 48, 3) := by decide +kernel
theorem d_Mo_init_110 : decode b_Mo_init 110 = .ok (.aload_n 0, 1) := by decide +kernel
theorem d_Mo_init_111 : decode b_Mo_init 111 = .ok (.sipush 17600, 3) := by decide +kernel
theorem d_Mo_init_114 : decode b_Mo_init 114 = .ok (.newarray .long, 2) := by decide +kernel
theorem d_Mo_init_116 : decode b_Mo_init 116 = .ok (.putfield 51, 3) := by decide +kernel
theorem d_Mo_init_119 : decode b_Mo_init 119 = .ok (.aload_n 0, 1) := by decide +kernel
theorem d_Mo_init_120 : decode b_Mo_init 120 = .ok (.bipush 16, 2) := by decide +kernel
theorem d_Mo_init_122 : decode b_Mo_init 122 = .ok (.newarray .int, 2) := by decide +kernel
theorem d_Mo_init_124 : decode b_Mo_init 124 = .ok (.putfield 54, 3) := by decide +kernel
theorem d_Mo_init_127 : decode b_Mo_init 127 = .ok (.aload_n 0, 1) := by decide +kernel
theorem d_Mo_init_128 : decode b_Mo_init 128 = .ok (.sipush 200, 3) := by decide +kernel
theorem d_Mo_init_131 : decode b_Mo_init 131 = .ok (.newarray .int, 2) := by decide +kernel
theorem d_Mo_init_133 : decode b_Mo_init 133 = .ok (.putfield 57, 3) := by decide +kernel
theorem d_Mo_init_136 : decode b_Mo_init 136 = .ok (.aload_n 0, 1) := by decide +kernel
theorem d_Mo_init_137 : decode b_Mo_init 137 = .ok (.sipush 240, 3) := by decide +kernel
theorem d_Mo_init_140 : decode b_Mo_init 140 = .ok (.newarray .int, 2) := by decide +kernel
theorem d_Mo_init_142 : decode b_Mo_init 142 = .ok (.putfield 60, 3) := by decide +kernel
theorem d_Mo_init_145 : decode b_Mo_init 145 = .ok (.aload_n 0, 1) := by decide +kernel
theorem d_Mo_init_146 : decode b_Mo_init 146 = .ok (.sipush 1920, 3) := by decide +kernel
theorem d_Mo_init_149 : decode b_Mo_init 149 = .ok (.newarray .int, 2) := by decide +kernel
theorem d_Mo_init_151 : decode b_Mo_init 151 = .ok (.putfield 63, 3) := by decide +kernel
theorem d_Mo_init_154 : decode b_Mo_init 154 = .ok (.aload_n 0, 1) := by decide +kernel
theorem d_Mo_init_155 : decode b_Mo_init 155 = .ok (.bipush 8, 2) := by decide +kernel
theorem d_Mo_init_157 : decode b_Mo_init 157 = .ok (.newarray .int, 2) := by decide +kernel
theorem d_Mo_init_159 : decode b_Mo_init 159 = .ok (.dup, 1) := by decide +kernel
theorem d_Mo_init_160 : decode b_Mo_init 160 = .ok (.iconst 0, 1) := by decide +kernel
theorem d_Mo_init_161 : decode b_Mo_init 161 = .ok (.iconst (-1), 1) := by decide +kernel
theorem d_Mo_init_162 : decode b_Mo_init 162 = .ok (.iastore, 1) := by decide +kernel
theorem d_Mo_init_163 : decode b_Mo_init 163 = .ok (.dup, 1) := by decide +kernel
theorem d_Mo_init_164 : decode b_Mo_init 164 = .ok (.iconst 1, 1) := by decide +kernel
theorem d_Mo_init_165 : decode b_Mo_init 165 = .ok (.iconst (-1), 1) := by decide +kernel
theorem d_Mo_init_166 : decode b_Mo_init 166 = .ok (.iastore, 1) := by decide +kernel
theorem d_Mo_init_167 : decode b_Mo_init 167 = .ok (.dup, 1) := by decide +kernel
theorem d_Mo_init_168 : decode b_Mo_init 168 = .ok (.iconst 2, 1) := by decide +kernel
theorem d_Mo_init_169 : decode b_Mo_init 169 = .ok (.iconst (-1), 1) := by decide +kernel
theorem d_Mo_init_170 : decode b_Mo_init 170 = .ok (.iastore, 1) := by decide +kernel
theorem d_Mo_init_171 : decode b_Mo_init 171 = .ok (.dup, 1) := by decide +kernel
theorem d_Mo_init_172 : decode b_Mo_init 172 = .ok (.iconst 3, 1) := by decide +kernel
theorem d_Mo_init_173 : decode b_Mo_init 173 = .ok (.iconst (-1), 1) := by decide +kernel
theorem d_Mo_init_174 : decode b_Mo_init 174 = .ok (.iastore, 1) := by decide +kernel
theorem d_Mo_init_175 : decode b_Mo_init 175 = .ok (.dup, 1) := by decide +kernel
theorem d_Mo_init_176 : decode b_Mo_init 176 = .ok (.iconst 4, 1) := by decide +kernel
theorem d_Mo_init_177 : decode b_Mo_init 177 = .ok (.iconst (-1), 1) := by decide +kernel
theorem d_Mo_init_178 : decode b_Mo_init 178 = .ok (.iastore, 1) := by decide +kernel
theorem d_Mo_init_179 : decode b_Mo_init 179 = .ok (.dup, 1) := by decide +kernel
theorem d_Mo_init_180 : decode b_Mo_init 180 = .ok (.iconst 5, 1) := by decide +kernel
theorem d_Mo_init_181 : decode b_Mo_init 181 = .ok (.iconst (-1), 1) := by decide +kernel
theorem d_Mo_init_182 : decode b_Mo_init 182 = .ok (.iastore, 1) := by decide +kernel
theorem d_Mo_init_183 : decode b_Mo_init 183 = .ok (.dup, 1) := by decide +kernel
theorem d_Mo_init_184 : decode b_Mo_init 184 = .ok (.bipush 6, 2) := by decide +kernel
theorem d_Mo_init_186 : decode b_Mo_init 186 = .ok (.iconst (-1), 1) := by decide +kernel
theorem d_Mo_init_187 : decode b_Mo_init 187 = .ok (.iastore, 1) := by decide +kernel
theorem d_Mo_init_188 : decode b_Mo_init 188 = .ok (.dup, 1) := by decide +kernel
theorem d_Mo_init_189 : decode b_Mo_init 189 = .ok (.bipush 7, 2) := by decide +kernel
theorem d_Mo_init_191 : decode b_Mo_init 191 = .ok (.iconst (-1), 1) := by decide +kernel
theorem d_Mo_init_192 : decode b_Mo_init 192 = .ok (.iastore, 1) := by decide +kernel
theorem d_Mo_init_193 : decode b_Mo_init 193 = .ok (.putfield 66, 3) := by decide +kernel
theorem d_Mo_init_196 : decode b_Mo_init 196 = .ok (.aload_n 0, 1) := by decide +kernel
theorem d_Mo_init_197 : decode b_Mo_init 197 = .ok (.sipush 240, 3) := by decide +kernel
theorem d_Mo_init_200 : decode b_Mo_init 200 = .ok (.newarray .int, 2) := by decide +kernel
theorem d_Mo_init_202 : decode b_Mo_init 202 = .ok (.putfield 69, 3) := by decide +kernel
theorem d_Mo_init_205 : decode b_Mo_init 205 = .ok (.aload_n 0, 1) := by decide +kernel
theorem d_Mo_init_206 : decode b_Mo_init 206 = .ok (.bipush 16, 2) := by decide +kernel
theorem d_Mo_init_208 : decode b_Mo_init 208 = .ok (.newarray .int, 2) := by decide +kernel
theorem d_Mo_init_210 : decode b_Mo_init 210 = .ok (.putfield 72, 3) := by decide +kernel
theorem d_Mo_init_213 : decode b_Mo_init 213 = .ok (.aload_n 0, 1) := by decide +kernel
theorem d_Mo_init_214 : decode b_Mo_init 214 = .ok (.bipush 16, 2) := by decide +kernel
theorem d_Mo_init_216 : decode b_Mo_init 216 = .ok (.newarray .int, 2) := by decide +kernel
theorem d_Mo_init_218 : decode b_Mo_init 218 = .ok (.putfield 75, 3) := by decide +kernel
theorem d_Mo_init_221 : decode b_Mo_init 221 = .ok (.aload_n 0, 1) := by decide +kernel
theorem d_Mo_init_222 : decode b_Mo_init 222 = .ok (.bipush 16, 2) := by decide +kernel
theorem d_Mo_init_224 : decode b_Mo_init 224 = .ok (.newarray .int, 2) := by decide +kernel
theorem d_Mo_init_226 : decode b_Mo_init 226 = .ok (.putfield 78, 3) := by decide +kernel
theorem d_Mo_init_229 : decode b_Mo_init 229 = .ok (.aload_n 0, 1) := by decide +kernel
theorem d_Mo_init_230 : decode b_Mo_init 230 = .ok (.bipush 16, 2) := by decide +kernel
theorem d_Mo_init_232 : decode b_Mo_init 232 = .ok (.newarray .int, 2) := by decide +kernel
theorem d_Mo_init_234 : decode b_Mo_init 234 = .ok (.putfield 81, 3) := by decide +kernel
theorem d_Mo_init_237 : decode b_Mo_init 237 = .ok (.aload_n 0, 1) := by decide +kernel
theorem d_Mo_init_238 : decode b_Mo_init 238 = .ok (.bipush 16, 2) := by decide +kernel
theorem d_Mo_init_240 : decode b_Mo_init 240 = .ok (.newarray .int, 2) := by decide +kernel
theorem d_Mo_init_242 : decode b_Mo_init 242 = .ok (.putfield 84, 3) := by decide +kernel
theorem d_Mo_init_245 : decode b_Mo_init 245 = .ok (.aload_n 0, 1) := by decide +kernel
theorem d_Mo_init_246 : decode b_Mo_init 246 = .ok (.bipush 16, 2) := by decide +kernel
theorem d_Mo_init_248 : decode b_Mo_init 248 = .ok (.newarray .int, 2) := by decide +kernel
theorem d_Mo_init_250 : decode b_Mo_init 250 = .ok (.putfield 87, 3) := by decide +kernel
theorem d_Mo_init_253 : decode b_Mo_init 253 = .ok (.iconst 0, 1) := by decide +kernel
theorem d_Mo_init_254 : decode b_Mo_init 254 = .ok (.istore_n 1, 1) := by decide +kernel
theorem d_Mo_init_255 : decode b_Mo_init 255 = .ok (.iload_n 1, 1) := by decide +kernel
theorem d_Mo_init_256 : decode b_Mo_init 256 = .ok (.sipush 256, 3) := by decide +kernel
theorem d_Mo_init_259 : decode b_Mo_init 259 = .ok (.if_icmp .ge 144, 3) := by decide +kernel
theorem d_Mo_init_262 : decode b_Mo_init 262 = .ok (.iconst 0, 1) := by decide +kernel
theorem d_Mo_init_263 : decode b_Mo_init 263 = .ok (.istore_n 2, 1) := by decide +kernel
theorem d_Mo_init_264 : decode b_Mo_init 264 = .ok (.iconst 1, 1) := by decide +kernel
theorem d_Mo_init_265 : decode b_Mo_init 265 = .ok (.istore_n 3, 1) := by decide +kernel
theorem d_Mo_init_266 : decode b_Mo_init 266 = .ok (.iload_n 3, 1) := by decide +kernel
theorem d_Mo_init_267 : decode b_Mo_init 267 = .ok (.sipush 256, 3) := by decide +kernel
theorem d_Mo_init_270 : decode b_Mo_init 270 = .ok (.if_icmp .ge 24, 3) := by decide +kernel
theorem d_Mo_init_273 : decode b_Mo_init 273 = .ok (.iload_n 1, 1) := by decide +kernel
theorem d_Mo_init_274 : decode b_Mo_init 274 = .ok (.iload_n 3, 1) := by decide +kernel
theorem d_Mo_init_275 : decode b_Mo_init 275 = .ok (.invokestatic 90, 3) := by decide +kernel
theorem d_Mo_init_278 : decode b_Mo_init 278 = .ok (.iconst 1, 1) := by decide +kernel
theorem d_Mo_init_279 : decode b_Mo_init 279 = .ok (.if_icmp .ne 7, 3) := by decide +kernel
theorem d_Mo_init_282 : decode b_Mo_init 282 = .ok (.iload_n 3, 1) := by decide +kernel
theorem d_Mo_init_283 : decode b_Mo_init 283 = .ok (.goto 4, 3) := by decide +kernel
theorem d_Mo_init_286 : decode b_Mo_init 286 = .ok (.iload_n 2, 1) := by decide +kernel
theorem d_Mo_init_287 : decode b_Mo_init 287 = .ok (.istore_n 2, 1) := by decide +kernel
theorem d_Mo_init_288 : decode b_Mo_init 288 = .ok (.iinc 3 1, 3) := by decide +kernel
theorem d_Mo_init_291 : decode b_Mo_init 291 = .ok (.goto (-25), 3) := by decide +kernel
theorem d_Mo_init_294 : decode b_Mo_init 294 = .ok (.iconst 0, 1) := by decide +kernel
theorem d_Mo_init_295 : decode b_Mo_init 295 = .ok (.istore_n 3, 1) := by decide +kernel
theorem d_Mo_init_296 : decode b_Mo_init 296 = .ok (.iconst 0, 1) := by decide +kernel
theorem d_Mo_init_297 : decode b_Mo_init 297 = .ok (.istore 4, 2) := by decide +kernel
theorem d_Mo_init_299 : decode b_Mo_init 299 = .ok (.iload 4, 2) := by decide +kernel
theorem d_Mo_init_301 : decode b_Mo_init 301 = .ok (.bipush 8, 2) := by decide +kernel
theorem d_Mo_init_303 : decode b_Mo_init 303 = .ok (.if_icmp .ge 87, 3) := by decide +kernel
theorem d_Mo_init_306 : decode b_Mo_init 306 = .ok (.bipush 99, 2) := by decide +kernel
theorem d_Mo_init_308 : decode b_Mo_init 308 = .ok (.iload 4, 2) := by decide +kernel
theorem d_Mo_init_310 : decode b_Mo_init 310 = .ok (.ishr, 1) := by decide +kernel
theorem d_Mo_init_311 : decode b_Mo_init 311 = .ok (.iconst 1, 1) := by decide +kernel
theorem d_Mo_init_312 : decode b_Mo_init 312 = .ok (.iand, 1) := by decide +kernel
theorem d_Mo_init_313 : decode b_Mo_init 313 = .ok (.istore 5, 2) := by decide +kernel
theorem d_Mo_init_315 : decode b_Mo_init 315 = .ok (.iload 5, 2) := by decide +kernel
theorem d_Mo_init_317 : decode b_Mo_init 317 = .ok (.iload_n 2, 1) := by decide +kernel
theorem d_Mo_init_318 : decode b_Mo_init 318 = .ok (.iload 4, 2) := by decide +kernel
theorem d_Mo_init_320 : decode b_Mo_init 320 = .ok (.ishr, 1) := by decide +kernel
theorem d_Mo_init_321 : decode b_Mo_init 321 = .ok (.iconst 1, 1) := by decide +kernel
theorem d_Mo_init_322 : decode b_Mo_init 322 = .ok (.iand, 1) := by decide +kernel
theorem d_Mo_init_323 : decode b_Mo_init 323 = .ok (.ixor, 1) := by decide +kernel
theorem d_Mo_init_324 : decode b_Mo_init 324 = .ok (.iload_n 2, 1) := by decide +kernel
theorem d_Mo_init_325 : decode b_Mo_init 325 = .ok (.iload 4, 2) := by decide +kernel
theorem d_Mo_init_327 : decode b_Mo_init 327 = .ok (.iconst 4, 1) := by decide +kernel
theorem d_Mo_init_328 : decode b_Mo_init 328 = .ok (.iadd, 1) := by decide +kernel
theorem d_Mo_init_329 : decode b_Mo_init 329 = .ok (.bipush 8, 2) := by decide +kernel
theorem d_Mo_init_331 : decode b_Mo_init 331 = .ok (.irem, 1) := by decide +kernel
theorem d_Mo_init_332 : decode b_Mo_init 332 = .ok (.ishr, 1) := by decide +kernel
theorem d_Mo_init_333 : decode b_Mo_init 333 = .ok (.iconst 1, 1) := by decide +kernel
theorem d_Mo_init_334 : decode b_Mo_init 334 = .ok (.iand, 1) := by decide +kernel
theorem d_Mo_init_335 : decode b_Mo_init 335 = .ok (.ixor, 1) := by decide +kernel
theorem d_Mo_init_336 : decode b_Mo_init 336 = .ok (.iload_n 2, 1) := by decide +kernel
theorem d_Mo_init_337 : decode b_Mo_init 337 = .ok (.iload 4, 2) := by decide +kernel
theorem d_Mo_init_339 : decode b_Mo_init 339 = .ok (.iconst 5, 1) := by decide +kernel
theorem d_Mo_init_340 : decode b_Mo_init 340 = .ok (.iadd, 1) := by decide +kernel
theorem d_Mo_init_341 : decode b_Mo_init 341 = .ok (.bipush 8, 2) := by decide +kernel
theorem d_Mo_init_343 : decode b_Mo_init 343 = .ok (.irem, 1) := by decide +kernel
theorem d_Mo_init_344 : decode b_Mo_init 344 = .ok (.ishr, 1) := by decide +kernel
theorem d_Mo_init_345 : decode b_Mo_init 345 = .ok (.iconst 1, 1) := by decide +kernel
theorem d_Mo_init_346 : decode b_Mo_init 346 = .ok (.iand, 1) := by decide +kernel
theorem d_Mo_init_347 : decode b_Mo_init 347 = .ok (.ixor, 1) := by decide +kernel
theorem d_Mo_init_348 : decode b_Mo_init 348 = .ok (.iload_n 2, 1) := by decide +kernel
theorem d_Mo_init_349 : decode b_Mo_init 349 = .ok (.iload 4, 2) := by decide +kernel
theorem d_Mo_init_351 : decode b_Mo_init 351 = .ok (.bipush 6, 2) := by decide +kernel
theorem d_Mo_init_353 : decode b_Mo_init 353 = .ok (.iadd, 1) := by decide +kernel
theorem d_Mo_init_354 : decode b_Mo_init 354 = .ok (.bipush 8, 2) := by decide +kernel
theorem d_Mo_init_356 : decode b_Mo_init 356 = .ok (.irem, 1) := by decide +kernel
theorem d_Mo_init_357 : decode b_Mo_init 357 = .ok (.ishr, 1) := by decide +kernel
theorem d_Mo_init_358 : decode b_Mo_init 358 = .ok (.iconst 1, 1) := by decide +kernel
theorem d_Mo_init_359 : decode b_Mo_init 359 = .ok (.iand, 1) := by decide +kernel
theorem d_Mo_init_360 : decode b_Mo_init 360 = .ok (.ixor, 1) := by decide +kernel
theorem d_Mo_init_361 : decode b_Mo_init 361 = .ok (.iload_n 2, 1) := by decide +kernel
theorem d_Mo_init_362 : decode b_Mo_init 362 = .ok (.iload 4, 2) := by decide +kernel
theorem d_Mo_init_364 : decode b_Mo_init 364 = .ok (.bipush 7, 2) := by decide +kernel
theorem d_Mo_init_366 : decode b_Mo_init 366 = .ok (.iadd, 1) := by decide +kernel
theorem d_Mo_init_367 : decode b_Mo_init 367 = .ok (.bipush 8, 2) := by decide +kernel
theorem d_Mo_init_369 : decode b_Mo_init 369 = .ok (.irem, 1) := by decide +kernel
theorem d_Mo_init_370 : decode b_Mo_init 370 = .ok (.ishr, 1) := by decide +kernel
theorem d_Mo_init_371 : decode b_Mo_init 371 = .ok (.iconst 1, 1) := by decide +kernel
theorem d_Mo_init_372 : decode b_Mo_init 372 = .ok (.iand, 1) := by decide +kernel
theorem d_Mo_init_373 : decode b_Mo_init 373 = .ok (.ixor, 1) := by decide +kernel
theorem d_Mo_init_374 : decode b_Mo_init 374 = .ok (.istore 5, 2) := by decide +kernel
theorem d_Mo_init_376 : decode b_Mo_init 376 = .ok (.iload_n 3, 1) := by decide +kernel
theorem d_Mo_init_377 : decode b_Mo_init 377 = .ok (.iload 5, 2) := by decide +kernel
theorem d_Mo_init_379 : decode b_Mo_init 379 = .ok (.iload 4, 2) := by decide +kernel
theorem d_Mo_init_381 : decode b_Mo_init 381 = .ok (.ishl, 1) := by decide +kernel
theorem d_Mo_init_382 : decode b_Mo_init 382 = .ok (.ior, 1) := by decide +kernel
theorem d_Mo_init_383 : decode b_Mo_init 383 = .ok (.istore_n 3, 1) := by decide +kernel
theorem d_Mo_init_384 : decode b_Mo_init 384 = .ok (.iinc 4 1, 3) := by decide +kernel
theorem d_Mo_init_387 : decode b_Mo_init 387 = .ok (.goto (-88), 3) := by decide +kernel
theorem d_Mo_init_390 : decode b_Mo_init 390 = .ok (.aload_n 0, 1) := by decide +kernel
theorem d_Mo_init_391 : decode b_Mo_init 391 = .ok (.getfield 7, 3) := by decide +kernel
theorem d_Mo_init_394 : decode b_Mo_init 394 = .ok (.iload_n 1, 1) := by decide +kernel
theorem d_Mo_init_395 : decode b_Mo_init 395 = .ok (.iload_n 3, 1) := by decide +kernel
theorem d_Mo_init_396 : decode b_Mo_init 396 = .ok (.iastore, 1) := by decide +kernel
theorem d_Mo_init_397 : decode b_Mo_init 397 = .ok (.iinc 1 1, 3) := by decide +kernel
theorem d_Mo_init_400 : decode b_Mo_init 400 = .ok (.goto (-145), 3) := by decide +kernel
theorem d_Mo_init_403 : decode b_Mo_init 403 = .ok (.return_, 1) := by decide +kernel
theorem d_Mo_thrown_0 : decode b_Mo_thrown 0 = .ok (.aload_n 0, 1) := by decide +kernel
theorem d_Mo_thrown_1 : decode b_Mo_thrown 1 = .ok (.getfield 94, 3) := by decide +kernel
theorem d_Mo_thrown_4 : decode b_Mo_thrown 4 = .ok (.ireturn, 1) := by decide +kernel
theorem d_Mo_times_0 : decode b_Mo_times 0 = .ok (.iconst 0, 1) := by decide +kernel
theorem d_Mo_times_1 : decode b_Mo_times 1 = .ok (.istore_n 2, 1) := by decide +kernel
theorem d_Mo_times_2 : decode b_Mo_times 2 = .ok (.bipush 7, 2) := by decide +kernel
theorem d_Mo_times_4 : decode b_Mo_times 4 = .ok (.istore_n 3, 1) := by decide +kernel
theorem d_Mo_times_5 : decode b_Mo_times 5 = .ok (.iload_n 3, 1) := by decide +kernel
theorem d_Mo_times_6 : decode b_Mo_times 6 = .ok (.ifCond .lt 47, 3) := by decide +kernel
theorem d_Mo_times_9 : decode b_Mo_times 9 = .ok (.iload_n 2, 1) := by decide +kernel
theorem d_Mo_times_10 : decode b_Mo_times 10 = .ok (.iconst 1, 1) := by decide +kernel
theorem d_Mo_times_11 : decode b_Mo_times 11 = .ok (.ishl, 1) := by decide +kernel
theorem d_Mo_times_12 : decode b_Mo_times 12 = .ok (.istore_n 2, 1) := by decide +kernel
theorem d_Mo_times_13 : decode b_Mo_times 13 = .ok (.iload_n 2, 1) := by decide +kernel
theorem d_Mo_times_14 : decode b_Mo_times 14 = .ok (.sipush 255, 3) := by decide +kernel
theorem d_Mo_times_17 : decode b_Mo_times 17 = .ok (.if_icmp .le 11, 3) := by decide +kernel
theorem d_Mo_times_20 : decode b_Mo_times 20 = .ok (.iload_n 2, 1) := by decide +kernel
theorem d_Mo_times_21 : decode b_Mo_times 21 = .ok (.sipush 283, 3) := by decide +kernel
theorem d_Mo_times_24 : decode b_Mo_times 24 = .ok (.ixor, 1) := by decide +kernel
theorem d_Mo_times_25 : decode b_Mo_times 25 = .ok (.goto 4, 3) := by decide +kernel
theorem d_Mo_times_28 : decode b_Mo_times 28 = .ok (.iload_n 2, 1) := by decide +kernel
theorem d_Mo_times_29 : decode b_Mo_times 29 = .ok (.istore_n 2, 1) := by decide +kernel
theorem d_Mo_times_30 : decode b_Mo_times 30 = .ok (.iload_n 1, 1) := by decide +kernel
theorem d_Mo_times_31 : decode b_Mo_times 31 = .ok (.iload_n 3, 1) := by decide +kernel
theorem d_Mo_times_32 : decode b_Mo_times 32 = .ok (.ishr, 1) := by decide +kernel
theorem d_Mo_times_33 : decode b_Mo_times 33 = .ok (.iconst 1, 1) := by decide +kernel
theorem d_Mo_times_34 : decode b_Mo_times 34 = .ok (.iand, 1) := by decide +kernel
theorem d_Mo_times_35 : decode b_Mo_times 35 = .ok (.iconst 1, 1) := by decide +kernel
theorem d_Mo_times_36 : decode b_Mo_times 36 = .ok (.if_icmp .ne 9, 3) := by decide +kernel
theorem d_Mo_times_39 : decode b_Mo_times 39 = .ok (.iload_n 2, 1) := by decide +kernel
theorem d_Mo_times_40 : decode b_Mo_times 40 = .ok (.iload_n 0, 1) := by decide +kernel
theorem d_Mo_times_41 : decode b_Mo_times 41 = .ok (.ixor, 1) := by decide +kernel
theorem d_Mo_times_42 : decode b_Mo_times 42 = .ok (.goto 4, 3) := by decide +kernel
theorem d_Mo_times_45 : decode b_Mo_times 45 = .ok (.iload_n 2, 1) := by decide +kernel
theorem d_Mo_times_46 : decode b_Mo_times 46 = .ok (.istore_n 2, 1) := by decide +kernel
theorem d_Mo_times_47 : decode b_Mo_times 47 = .ok (.iinc 3 (-1), 3) := by decide +kernel
theorem d_Mo_times_50 : decode b_Mo_times 50 = .ok (.goto (-45), 3) := by decide +kernel
theorem d_Mo_times_53 : decode b_Mo_times 53 = .ok (.iload_n 2, 1) := by decide +kernel
theorem d_Mo_times_54 : decode b_Mo_times 54 = .ok (.ireturn, 1) := by decide +kernel
theorem d_Mo_spreadKey_0 : decode b_Mo_spreadKey 0 = .ok (.sipush 176, 3) := by decide +kernel
theorem d_Mo_spreadKey_3 : decode b_Mo_spreadKey 3 = .ok (.iload_n 1, 1) := by decide +kernel
theorem d_Mo_spreadKey_4 : decode b_Mo_spreadKey 4 = .ok (.imul, 1) := by decide +kernel
theorem d_Mo_spreadKey_5 : decode b_Mo_spreadKey 5 = .ok (.istore 6, 2) := by decide +kernel
theorem d_Mo_spreadKey_7 : decode b_Mo_spreadKey 7 = .ok (.iconst 0, 1) := by decide +kernel
theorem d_Mo_spreadKey_8 : decode b_Mo_spreadKey 8 = .ok (.istore 7, 2) := by decide +kernel
theorem d_Mo_spreadKey_10 : decode b_Mo_spreadKey 10 = .ok (.iload 7, 2) := by decide +kernel
theorem d_Mo_spreadKey_12 : decode b_Mo_spreadKey 12 = .ok (.bipush 16, 2) := by decide +kernel
theorem d_Mo_spreadKey_14 : decode b_Mo_spreadKey 14 = .ok (.if_icmp .ge 49, 3) := by decide +kernel
theorem d_Mo_spreadKey_17 : decode b_Mo_spreadKey 17 = .ok (.aload_n 0, 1) := by decide +kernel
theorem d_Mo_spreadKey_18 : decode b_Mo_spreadKey 18 = .ok (.getfield 20, 3) := by decide +kernel
theorem d_Mo_spreadKey_21 : decode b_Mo_spreadKey 21 = .ok (.iload 6, 2) := by decide +kernel
theorem d_Mo_spreadKey_23 : decode b_Mo_spreadKey 23 = .ok (.iload 7, 2) := by decide +kernel
theorem d_Mo_spreadKey_25 : decode b_Mo_spreadKey 25 = .ok (.iadd, 1) := by decide +kernel
theorem d_Mo_spreadKey_26 : decode b_Mo_spreadKey 26 = .ok (.iload 7, 2) := by decide +kernel
theorem d_Mo_spreadKey_28 : decode b_Mo_spreadKey 28 = .ok (.bipush 8, 2) := by decide +kernel
theorem d_Mo_spreadKey_30 : decode b_Mo_spreadKey 30 = .ok (.if_icmp .ge 7, 3) := by decide +kernel
theorem d_Mo_spreadKey_33 : decode b_Mo_spreadKey 33 = .ok (.lload_n 2, 1) := by decide +kernel
theorem d_Mo_spreadKey_34 : decode b_Mo_spreadKey 34 = .ok (.goto 5, 3) := by decide +kernel
theorem d_Mo_spreadKey_37 : decode b_Mo_spreadKey 37 = .ok (.lload 4, 2) := by decide +kernel
theorem d_Mo_spreadKey_39 : decode b_Mo_spreadKey 39 = .ok (.bipush 56, 2) := by decide +kernel
theorem d_Mo_spreadKey_41 : decode b_Mo_spreadKey 41 = .ok (.bipush 8, 2) := by decide +kernel
theorem d_Mo_spreadKey_43 : decode b_Mo_spreadKey 43 = .ok (.iload 7, 2) := by decide +kernel
theorem d_Mo_spreadKey_45 : decode b_Mo_spreadKey 45 = .ok (.bipush 8, 2) := by decide +kernel
theorem d_Mo_spreadKey_47 : decode b_Mo_spreadKey 47 = .ok (.irem, 1) := by decide +kernel
theorem d_Mo_spreadKey_48 : decode b_Mo_spreadKey 48 = .ok (.imul, 1) := by decide +kernel
theorem d_Mo_spreadKey_49 : decode b_Mo_spreadKey 49 = .ok (.isub, 1) := by decide +kernel
theorem d_Mo_spreadKey_50 : decode b_Mo_spreadKey 50 = .ok (.lshr, 1) := by decide +kernel
theorem d_Mo_spreadKey_51 : decode b_Mo_spreadKey 51 = .ok (.ldc2_w 98, 3) := by decide +kernel
theorem d_Mo_spreadKey_54 : decode b_Mo_spreadKey 54 = .ok (.land, 1) := by decide +kernel
theorem d_Mo_spreadKey_55 : decode b_Mo_spreadKey 55 = .ok (.l2i, 1) := by decide +kernel
theorem d_Mo_spreadKey_56 : decode b_Mo_spreadKey 56 = .ok (.iastore, 1) := by decide +kernel
theorem d_Mo_spreadKey_57 : decode b_Mo_spreadKey 57 = .ok (.iinc 7 1, 3) := by decide +kernel
theorem d_Mo_spreadKey_60 : decode b_Mo_spreadKey 60 = .ok (.goto (-50), 3) := by decide +kernel
theorem d_Mo_spreadKey_63 : decode b_Mo_spreadKey 63 = .ok (.iconst 1, 1) := by decide +kernel
theorem d_Mo_spreadKey_64 : decode b_Mo_spreadKey 64 = .ok (.istore 7, 2) := by decide +kernel
theorem d_Mo_spreadKey_66 : decode b_Mo_spreadKey 66 = .ok (.iconst 4, 1) := by decide +kernel
theorem d_Mo_spreadKey_67 : decode b_Mo_spreadKey 67 = .ok (.istore 8, 2) := by decide +kernel
theorem d_Mo_spreadKey_69 : decode b_Mo_spreadKey 69 = .ok (.iload 8, 2) := by decide +kernel
theorem d_Mo_spreadKey_71 : decode b_Mo_spreadKey 71 = .ok (.bipush 44, 2) := by decide +kernel
theorem d_Mo_spreadKey_73 : decode b_Mo_spreadKey 73 = .ok (.if_icmp .ge 150, 3) := by decide +kernel
theorem d_Mo_spreadKey_76 : decode b_Mo_spreadKey 76 = .ok (.iconst 0, 1) := by decide +kernel
theorem d_Mo_spreadKey_77 : decode b_Mo_spreadKey 77 = .ok (.istore 9, 2) := by decide +kernel
theorem d_Mo_spreadKey_79 : decode b_Mo_spreadKey 79 = .ok (.iload 9, 2) := by decide +kernel
theorem d_Mo_spreadKey_81 : decode b_Mo_spreadKey 81 = .ok (.iconst 4, 1) := by decide +kernel
theorem d_Mo_spreadKey_82 : decode b_Mo_spreadKey 82 = .ok (.if_icmp .ge 115, 3) := by decide +kernel
theorem d_Mo_spreadKey_85 : decode b_Mo_spreadKey 85 = .ok (.aload_n 0, 1) := by decide +kernel
theorem d_Mo_spreadKey_86 : decode b_Mo_spreadKey 86 = .ok (.getfield 20, 3) := by decide +kernel
theorem d_Mo_spreadKey_89 : decode b_Mo_spreadKey 89 = .ok (.iload 6, 2) := by decide +kernel
theorem d_Mo_spreadKey_91 : decode b_Mo_spreadKey 91 = .ok (.iconst 4, 1) := by decide +kernel
theorem d_Mo_spreadKey_92 : decode b_Mo_spreadKey 92 = .ok (.iload 8, 2) := by decide +kernel
theorem d_Mo_spreadKey_94 : decode b_Mo_spreadKey 94 = .ok (.iconst 1, 1) := by decide +kernel
theorem d_Mo_spreadKey_95 : decode b_Mo_spreadKey 95 = .ok (.isub, 1) := by decide +kernel
theorem d_Mo_spreadKey_96 : decode b_Mo_spreadKey 96 = .ok (.imul, 1) := by decide +kernel
theorem d_Mo_spreadKey_97 : decode b_Mo_spreadKey 97 = .ok (.iadd, 1) := by decide +kernel
theorem d_Mo_spreadKey_98 : decode b_Mo_spreadKey 98 = .ok (.iload 9, 2) := by decide +kernel
theorem d_Mo_spreadKey_100 : decode b_Mo_spreadKey 100 = .ok (.iadd, 1) := by decide +kernel
theorem d_Mo_spreadKey_101 : decode b_Mo_spreadKey 101 = .ok (.iaload, 1) := by decide +kernel
theorem d_Mo_spreadKey_102 : decode b_Mo_spreadKey 102 = .ok (.istore 10, 2) := by decide +kernel
theorem d_Mo_spreadKey_104 : decode b_Mo_spreadKey 104 = .ok (.iload 8, 2) := by decide +kernel
theorem d_Mo_spreadKey_106 : decode b_Mo_spreadKey 106 = .ok (.iconst 4, 1) := by decide +kernel
theorem d_Mo_spreadKey_107 : decode b_Mo_spreadKey 107 = .ok (.irem, 1) := by decide +kernel
theorem d_Mo_spreadKey_108 : decode b_Mo_spreadKey 108 = .ok (.ifCond .ne 48, 3) := by decide +kernel
theorem d_Mo_spreadKey_111 : decode b_Mo_spreadKey 111 = .ok (.aload_n 0, 1) := by decide +kernel
theorem d_Mo_spreadKey_112 : decode b_Mo_spreadKey 112 = .ok (.getfield 7, 3) := by decide +kernel
theorem d_Mo_spreadKey_115 : decode b_Mo_spreadKey 115 = .ok (.aload_n 0, 1) := by decide +kernel
theorem d_Mo_spreadKey_116 : decode b_Mo_spreadKey 116 = .ok (.getfield 20, 3) := by decide +kernel
theorem d_Mo_spreadKey_119 : decode b_Mo_spreadKey 119 = .ok (.iload 6, 2) := by decide +kernel
theorem d_Mo_spreadKey_121 : decode b_Mo_spreadKey 121 = .ok (.iconst 4, 1) := by decide +kernel
theorem d_Mo_spreadKey_122 : decode b_Mo_spreadKey 122 = .ok (.iload 8, 2) := by decide +kernel
theorem d_Mo_spreadKey_124 : decode b_Mo_spreadKey 124 = .ok (.iconst 1, 1) := by decide +kernel
theorem d_Mo_spreadKey_125 : decode b_Mo_spreadKey 125 = .ok (.isub, 1) := by decide +kernel
theorem d_Mo_spreadKey_126 : decode b_Mo_spreadKey 126 = .ok (.imul, 1) := by decide +kernel
theorem d_Mo_spreadKey_127 : decode b_Mo_spreadKey 127 = .ok (.iadd, 1) := by decide +kernel
theorem d_Mo_spreadKey_128 : decode b_Mo_spreadKey 128 = .ok (.iload 9, 2) := by decide +kernel
theorem d_Mo_spreadKey_130 : decode b_Mo_spreadKey 130 = .ok (.iconst 1, 1) := by decide +kernel
theorem d_Mo_spreadKey_131 : decode b_Mo_spreadKey 131 = .ok (.iadd, 1) := by decide +kernel
theorem d_Mo_spreadKey_132 : decode b_Mo_spreadKey 132 = .ok (.iconst 4, 1) := by decide +kernel
theorem d_Mo_spreadKey_133 : decode b_Mo_spreadKey 133 = .ok (.irem, 1) := by decide +kernel
theorem d_Mo_spreadKey_134 : decode b_Mo_spreadKey 134 = .ok (.iadd, 1) := by decide +kernel
theorem d_Mo_spreadKey_135 : decode b_Mo_spreadKey 135 = .ok (.iaload, 1) := by decide +kernel
theorem d_Mo_spreadKey_136 : decode b_Mo_spreadKey 136 = .ok (.iaload, 1) := by decide +kernel
theorem d_Mo_spreadKey_137 : decode b_Mo_spreadKey 137 = .ok (.istore 10, 2) := by decide +kernel
theorem d_Mo_spreadKey_139 : decode b_Mo_spreadKey 139 = .ok (.iload 9, 2) := by decide +kernel
theorem d_Mo_spreadKey_141 : decode b_Mo_spreadKey 141 = .ok (.ifCond .ne 11, 3) := by decide +kernel
theorem d_Mo_spreadKey_144 : decode b_Mo_spreadKey 144 = .ok (.iload 10, 2) := by decide +kernel
theorem d_Mo_spreadKey_146 : decode b_Mo_spreadKey 146 = .ok (.iload 7, 2) := by decide +kernel
theorem d_Mo_spreadKey_148 : decode b_Mo_spreadKey 148 = .ok (.ixor, 1) := by decide +kernel
theorem d_Mo_spreadKey_149 : decode b_Mo_spreadKey 149 = .ok (.goto 5, 3) := by decide +kernel
theorem d_Mo_spreadKey_152 : decode b_Mo_spreadKey 152 = .ok (.iload 10, 2) := by decide +kernel
theorem d_Mo_spreadKey_154 : decode b_Mo_spreadKey 154 = .ok (.istore 10, 2) := by decide +kernel
theorem d_Mo_spreadKey_156 : decode b_Mo_spreadKey 156 = .ok (.aload_n 0, 1) := by decide +kernel
theorem d_Mo_spreadKey_157 : decode b_Mo_spreadKey 157 = .ok (.getfield 20, 3) := by decide +kernel
theorem d_Mo_spreadKey_160 : decode b_Mo_spreadKey 160 = .ok (.iload 6, 2) := by decide +kernel
theorem d_Mo_spreadKey_162 : decode b_Mo_spreadKey 162 = .ok (.iconst 4, 1) := by decide +kernel
theorem d_Mo_spreadKey_163 : decode b_Mo_spreadKey 163 = .ok (.iload 8, 2) := by decide +kernel
theorem d_Mo_spreadKey_165 : decode b_Mo_spreadKey 165 = .ok (.imul, 1) := by decide +kernel
theorem d_Mo_spreadKey_166 : decode b_Mo_spreadKey 166 = .ok (.iadd, 1) := by decide +kernel
theorem d_Mo_spreadKey_167 : decode b_Mo_spreadKey 167 = .ok (.iload 9, 2) := by decide +kernel
theorem d_Mo_spreadKey_169 : decode b_Mo_spreadKey 169 = .ok (.iadd, 1) := by decide +kernel
theorem d_Mo_spreadKey_170 : decode b_Mo_spreadKey 170 = .ok (.aload_n 0, 1) := by decide +kernel
theorem d_Mo_spreadKey_171 : decode b_Mo_spreadKey 171 = .ok (.getfield 20, 3) := by decide +kernel
theorem d_Mo_spreadKey_174 : decode b_Mo_spreadKey 174 = .ok (.iload 6, 2) := by decide +kernel
theorem d_Mo_spreadKey_176 : decode b_Mo_spreadKey 176 = .ok (.iconst 4, 1) := by decide +kernel
theorem d_Mo_spreadKey_177 : decode b_Mo_spreadKey 177 = .ok (.iload 8, 2) := by decide +kernel
theorem d_Mo_spreadKey_179 : decode b_Mo_spreadKey 179 = .ok (.iconst 4, 1) := by decide +kernel
theorem d_Mo_spreadKey_180 : decode b_Mo_spreadKey 180 = .ok (.isub, 1) := by decide +kernel
theorem d_Mo_spreadKey_181 : decode b_Mo_spreadKey 181 = .ok (.imul, 1) := by decide +kernel
theorem d_Mo_spreadKey_182 : decode b_Mo_spreadKey 182 = .ok (.iadd, 1) := by decide +kernel
theorem d_Mo_spreadKey_183 : decode b_Mo_spreadKey 183 = .ok (.iload 9, 2) := by decide +kernel
theorem d_Mo_spreadKey_185 : decode b_Mo_spreadKey 185 = .ok (.iadd, 1) := by decide +kernel
theorem d_Mo_spreadKey_186 : decode b_Mo_spreadKey 186 = .ok (.iaload, 1) := by decide +kernel
theorem d_Mo_spreadKey_187 : decode b_Mo_spreadKey 187 = .ok (.iload 10, 2) := by decide +kernel
theorem d_Mo_spreadKey_189 : decode b_Mo_spreadKey 189 = .ok (.ixor, 1) := by decide +kernel
theorem d_Mo_spreadKey_190 : decode b_Mo_spreadKey 190 = .ok (.iastore, 1) := by decide +kernel
theorem d_Mo_spreadKey_191 : decode b_Mo_spreadKey 191 = .ok (.iinc 9 1, 3) := by decide +kernel
theorem d_Mo_spreadKey_194 : decode b_Mo_spreadKey 194 = .ok (.goto (-115), 3) := by decide +kernel
theorem d_Mo_spreadKey_197 : decode b_Mo_spreadKey 197 = .ok (.iload 8, 2) := by decide +kernel
theorem d_Mo_spreadKey_199 : decode b_Mo_spreadKey 199 = .ok (.iconst 4, 1) := by decide +kernel
theorem d_Mo_spreadKey_200 : decode b_Mo_spreadKey 200 = .ok (.irem, 1) := by decide +kernel
theorem d_Mo_spreadKey_201 : decode b_Mo_spreadKey 201 = .ok (.ifCond .ne 12, 3) := by decide +kernel
theorem d_Mo_spreadKey_204 : decode b_Mo_spreadKey 204 = .ok (.iload 7, 2) := by decide +kernel
theorem d_Mo_spreadKey_206 : decode b_Mo_spreadKey 206 = .ok (.iconst 2, 1) := by decide +kernel
theorem d_Mo_spreadKey_207 : decode b_Mo_spreadKey 207 = .ok (.invokestatic 90, 3) := by decide +kernel
theorem d_Mo_spreadKey_210 : decode b_Mo_spreadKey 210 = .ok (.goto 5, 3) := by decide +kernel
theorem d_Mo_spreadKey_213 : decode b_Mo_spreadKey 213 = .ok (.iload 7, 2) := by decide +kernel
theorem d_Mo_spreadKey_215 : decode b_Mo_spreadKey 215 = .ok (.istore 7, 2) := by decide +kernel
theorem d_Mo_spreadKey_217 : decode b_Mo_spreadKey 217 = .ok (.iinc 8 1, 3) := by decide +kernel
theorem d_Mo_spreadKey_220 : decode b_Mo_spreadKey 220 = .ok (.goto (-151), 3) := by decide +kernel
theorem d_Mo_spreadKey_223 : decode b_Mo_spreadKey 223 = .ok (.return_, 1) := by decide +kernel
theorem d_Mo_addWords_0 : decode b_Mo_addWords 0 = .ok (.iconst 0, 1) := by decide +kernel
theorem d_Mo_addWords_1 : decode b_Mo_addWords 1 = .ok (.istore_n 3, 1) := by decide +kernel
theorem d_Mo_addWords_2 : decode b_Mo_addWords 2 = .ok (.iload_n 3, 1) := by decide +kernel
theorem d_Mo_addWords_3 : decode b_Mo_addWords 3 = .ok (.bipush 16, 2) := by decide +kernel
theorem d_Mo_addWords_5 : decode b_Mo_addWords 5 = .ok (.if_icmp .ge 39, 3) := by decide +kernel
theorem d_Mo_addWords_8 : decode b_Mo_addWords 8 = .ok (.aload_n 0, 1) := by decide +kernel
theorem d_Mo_addWords_9 : decode b_Mo_addWords 9 = .ok (.getfield 72, 3) := by decide +kernel
theorem d_Mo_addWords_12 : decode b_Mo_addWords 12 = .ok (.iload_n 3, 1) := by decide +kernel
theorem d_Mo_addWords_13 : decode b_Mo_addWords 13 = .ok (.aload_n 0, 1) := by decide +kernel
theorem d_Mo_addWords_14 : decode b_Mo_addWords 14 = .ok (.getfield 72, 3) := by decide +kernel
theorem d_Mo_addWords_17 : decode b_Mo_addWords 17 = .ok (.iload_n 3, 1) := by decide +kernel
theorem d_Mo_addWords_18 : decode b_Mo_addWords 18 = .ok (.iaload, 1) := by decide +kernel
theorem d_Mo_addWords_19 : decode b_Mo_addWords 19 = .ok (.aload_n 0, 1) := by decide +kernel
theorem d_Mo_addWords_20 : decode b_Mo_addWords 20 = .ok (.getfield 20, 3) := by decide +kernel
theorem d_Mo_addWords_23 : decode b_Mo_addWords 23 = .ok (.sipush 176, 3) := by decide +kernel
theorem d_Mo_addWords_26 : decode b_Mo_addWords 26 = .ok (.iload_n 1, 1) := by decide +kernel
theorem d_Mo_addWords_27 : decode b_Mo_addWords 27 = .ok (.imul, 1) := by decide +kernel

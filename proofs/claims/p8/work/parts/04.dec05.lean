theorem d_Mo_makeSeal_157 : decode b_Mo_makeSeal 157 = .ok (.istore 7, 2) := by decide +kernel
theorem d_Mo_makeSeal_159 : decode b_Mo_makeSeal 159 = .ok (.aload_n 0, 1) := by decide +kernel
theorem d_Mo_makeSeal_160 : decode b_Mo_makeSeal 160 = .ok (.iload 6, 2) := by decide +kernel
theorem d_Mo_makeSeal_162 : decode b_Mo_makeSeal 162 = .ok (.iload 7, 2) := by decide +kernel
theorem d_Mo_makeSeal_164 : decode b_Mo_makeSeal 164 = .ok (.invokevirtual 123, 3) := by decide +kernel
theorem d_Mo_makeSeal_167 : decode b_Mo_makeSeal 167 = .ok (.iinc 6 1, 3) := by decide +kernel
theorem d_Mo_makeSeal_170 : decode b_Mo_makeSeal 170 = .ok (.goto (-82), 3) := by decide +kernel
theorem d_Mo_makeSeal_173 : decode b_Mo_makeSeal 173 = .ok (.iconst 0, 1) := by decide +kernel
theorem d_Mo_makeSeal_174 : decode b_Mo_makeSeal 174 = .ok (.istore 6, 2) := by decide +kernel
theorem d_Mo_makeSeal_176 : decode b_Mo_makeSeal 176 = .ok (.iload 6, 2) := by decide +kernel
theorem d_Mo_makeSeal_178 : decode b_Mo_makeSeal 178 = .ok (.iload 4, 2) := by decide +kernel
theorem d_Mo_makeSeal_180 : decode b_Mo_makeSeal 180 = .ok (.if_icmp .lt 11, 3) := by decide +kernel
theorem d_Mo_makeSeal_183 : decode b_Mo_makeSeal 183 = .ok (.iload 6, 2) := by decide +kernel
theorem d_Mo_makeSeal_185 : decode b_Mo_makeSeal 185 = .ok (.bipush 16, 2) := by decide +kernel
theorem d_Mo_makeSeal_187 : decode b_Mo_makeSeal 187 = .ok (.irem, 1) := by decide +kernel
theorem d_Mo_makeSeal_188 : decode b_Mo_makeSeal 188 = .ok (.ifCond .eq 36, 3) := by decide +kernel
theorem d_Mo_makeSeal_191 : decode b_Mo_makeSeal 191 = .ok (.aload_n 0, 1) := by decide +kernel
theorem d_Mo_makeSeal_192 : decode b_Mo_makeSeal 192 = .ok (.iload 6, 2) := by decide +kernel
theorem d_Mo_makeSeal_194 : decode b_Mo_makeSeal 194 = .ok (.iload 6, 2) := by decide +kernel
theorem d_Mo_makeSeal_196 : decode b_Mo_makeSeal 196 = .ok (.iload 4, 2) := by decide +kernel
theorem d_Mo_makeSeal_198 : decode b_Mo_makeSeal 198 = .ok (.if_icmp .ge 16, 3) := by decide +kernel
theorem d_Mo_makeSeal_201 : decode b_Mo_makeSeal 201 = .ok (.aload_n 0, 1) := by decide +kernel
theorem d_Mo_makeSeal_202 : decode b_Mo_makeSeal 202 = .ok (.getfield 60, 3) := by decide +kernel
theorem d_Mo_makeSeal_205 : decode b_Mo_makeSeal 205 = .ok (.bipush 16, 2) := by decide +kernel
theorem d_Mo_makeSeal_207 : decode b_Mo_makeSeal 207 = .ok (.iload 6, 2) := by decide +kernel
theorem d_Mo_makeSeal_209 : decode b_Mo_makeSeal 209 = .ok (.iadd, 1) := by decide +kernel
theorem d_Mo_makeSeal_210 : decode b_Mo_makeSeal 210 = .ok (.iaload, 1) := by decide +kernel
theorem d_Mo_makeSeal_211 : decode b_Mo_makeSeal 211 = .ok (.goto 4, 3) := by decide +kernel
theorem d_Mo_makeSeal_214 : decode b_Mo_makeSeal 214 = .ok (.iconst 0, 1) := by decide +kernel
theorem d_Mo_makeSeal_215 : decode b_Mo_makeSeal 215 = .ok (.invokevirtual 123, 3) := by decide +kernel
theorem d_Mo_makeSeal_218 : decode b_Mo_makeSeal 218 = .ok (.iinc 6 1, 3) := by decide +kernel
theorem d_Mo_makeSeal_221 : decode b_Mo_makeSeal 221 = .ok (.goto (-45), 3) := by decide +kernel
theorem d_Mo_makeSeal_224 : decode b_Mo_makeSeal 224 = .ok (.iconst 0, 1) := by decide +kernel
theorem d_Mo_makeSeal_225 : decode b_Mo_makeSeal 225 = .ok (.istore 6, 2) := by decide +kernel
theorem d_Mo_makeSeal_227 : decode b_Mo_makeSeal 227 = .ok (.iload 6, 2) := by decide +kernel
theorem d_Mo_makeSeal_229 : decode b_Mo_makeSeal 229 = .ok (.bipush 16, 2) := by decide +kernel
theorem d_Mo_makeSeal_231 : decode b_Mo_makeSeal 231 = .ok (.if_icmp .ge 52, 3) := by decide +kernel
theorem d_Mo_makeSeal_234 : decode b_Mo_makeSeal 234 = .ok (.aload_n 0, 1) := by decide +kernel
theorem d_Mo_makeSeal_235 : decode b_Mo_makeSeal 235 = .ok (.iload 6, 2) := by decide +kernel
theorem d_Mo_makeSeal_237 : decode b_Mo_makeSeal 237 = .ok (.iload 6, 2) := by decide +kernel
theorem d_Mo_makeSeal_239 : decode b_Mo_makeSeal 239 = .ok (.bipush 8, 2) := by decide +kernel
theorem d_Mo_makeSeal_241 : decode b_Mo_makeSeal 241 = .ok (.if_icmp .ge 18, 3) := by decide +kernel
theorem d_Mo_makeSeal_244 : decode b_Mo_makeSeal 244 = .ok (.ldc2_w 126, 3) := by decide +kernel
theorem d_Mo_makeSeal_247 : decode b_Mo_makeSeal 247 = .ok (.iload 5, 2) := by decide +kernel
theorem d_Mo_makeSeal_249 : decode b_Mo_makeSeal 249 = .ok (.i2l, 1) := by decide +kernel
theorem d_Mo_makeSeal_250 : decode b_Mo_makeSeal 250 = .ok (.lmul, 1) := by decide +kernel
theorem d_Mo_makeSeal_251 : decode b_Mo_makeSeal 251 = .ok (.iload 6, 2) := by decide +kernel
theorem d_Mo_makeSeal_253 : decode b_Mo_makeSeal 253 = .ok (.invokestatic 119, 3) := by decide +kernel
theorem d_Mo_makeSeal_256 : decode b_Mo_makeSeal 256 = .ok (.goto 18, 3) := by decide +kernel
theorem d_Mo_makeSeal_259 : decode b_Mo_makeSeal 259 = .ok (.ldc2_w 126, 3) := by decide +kernel
theorem d_Mo_makeSeal_262 : decode b_Mo_makeSeal 262 = .ok (.iload 4, 2) := by decide +kernel
theorem d_Mo_makeSeal_264 : decode b_Mo_makeSeal 264 = .ok (.i2l, 1) := by decide +kernel
theorem d_Mo_makeSeal_265 : decode b_Mo_makeSeal 265 = .ok (.lmul, 1) := by decide +kernel
theorem d_Mo_makeSeal_266 : decode b_Mo_makeSeal 266 = .ok (.iload 6, 2) := by decide +kernel
theorem d_Mo_makeSeal_268 : decode b_Mo_makeSeal 268 = .ok (.bipush 8, 2) := by decide +kernel
theorem d_Mo_makeSeal_270 : decode b_Mo_makeSeal 270 = .ok (.isub, 1) := by decide +kernel
theorem d_Mo_makeSeal_271 : decode b_Mo_makeSeal 271 = .ok (.invokestatic 119, 3) := by decide +kernel
theorem d_Mo_makeSeal_274 : decode b_Mo_makeSeal 274 = .ok (.invokevirtual 123, 3) := by decide +kernel
theorem d_Mo_makeSeal_277 : decode b_Mo_makeSeal 277 = .ok (.iinc 6 1, 3) := by decide +kernel
theorem d_Mo_makeSeal_280 : decode b_Mo_makeSeal 280 = .ok (.goto (-53), 3) := by decide +kernel
theorem d_Mo_makeSeal_283 : decode b_Mo_makeSeal 283 = .ok (.aload_n 0, 1) := by decide +kernel
theorem d_Mo_makeSeal_284 : decode b_Mo_makeSeal 284 = .ok (.iload_n 1, 1) := by decide +kernel
theorem d_Mo_makeSeal_285 : decode b_Mo_makeSeal 285 = .ok (.iconst 1, 1) := by decide +kernel
theorem d_Mo_makeSeal_286 : decode b_Mo_makeSeal 286 = .ok (.invokevirtual 128, 3) := by decide +kernel
theorem d_Mo_makeSeal_289 : decode b_Mo_makeSeal 289 = .ok (.iconst 0, 1) := by decide +kernel
theorem d_Mo_makeSeal_290 : decode b_Mo_makeSeal 290 = .ok (.istore 6, 2) := by decide +kernel
theorem d_Mo_makeSeal_292 : decode b_Mo_makeSeal 292 = .ok (.iload 6, 2) := by decide +kernel
theorem d_Mo_makeSeal_294 : decode b_Mo_makeSeal 294 = .ok (.bipush 16, 2) := by decide +kernel
theorem d_Mo_makeSeal_296 : decode b_Mo_makeSeal 296 = .ok (.if_icmp .ge 31, 3) := by decide +kernel
theorem d_Mo_makeSeal_299 : decode b_Mo_makeSeal 299 = .ok (.aload_n 0, 1) := by decide +kernel
theorem d_Mo_makeSeal_300 : decode b_Mo_makeSeal 300 = .ok (.getfield 87, 3) := by decide +kernel
theorem d_Mo_makeSeal_303 : decode b_Mo_makeSeal 303 = .ok (.iload 6, 2) := by decide +kernel
theorem d_Mo_makeSeal_305 : decode b_Mo_makeSeal 305 = .ok (.aload_n 0, 1) := by decide +kernel
theorem d_Mo_makeSeal_306 : decode b_Mo_makeSeal 306 = .ok (.getfield 78, 3) := by decide +kernel
theorem d_Mo_makeSeal_309 : decode b_Mo_makeSeal 309 = .ok (.iload 6, 2) := by decide +kernel
theorem d_Mo_makeSeal_311 : decode b_Mo_makeSeal 311 = .ok (.iaload, 1) := by decide +kernel
theorem d_Mo_makeSeal_312 : decode b_Mo_makeSeal 312 = .ok (.aload_n 0, 1) := by decide +kernel
theorem d_Mo_makeSeal_313 : decode b_Mo_makeSeal 313 = .ok (.getfield 72, 3) := by decide +kernel
theorem d_Mo_makeSeal_316 : decode b_Mo_makeSeal 316 = .ok (.iload 6, 2) := by decide +kernel
theorem d_Mo_makeSeal_318 : decode b_Mo_makeSeal 318 = .ok (.iaload, 1) := by decide +kernel
theorem d_Mo_makeSeal_319 : decode b_Mo_makeSeal 319 = .ok (.ixor, 1) := by decide +kernel
theorem d_Mo_makeSeal_320 : decode b_Mo_makeSeal 320 = .ok (.iastore, 1) := by decide +kernel
theorem d_Mo_makeSeal_321 : decode b_Mo_makeSeal 321 = .ok (.iinc 6 1, 3) := by decide +kernel
theorem d_Mo_makeSeal_324 : decode b_Mo_makeSeal 324 = .ok (.goto (-32), 3) := by decide +kernel
theorem d_Mo_makeSeal_327 : decode b_Mo_makeSeal 327 = .ok (.return_, 1) := by decide +kernel
theorem d_Mo_turnBody_0 : decode b_Mo_turnBody 0 = .ok (.iconst 0, 1) := by decide +kernel
theorem d_Mo_turnBody_1 : decode b_Mo_turnBody 1 = .ok (.istore_n 3, 1) := by decide +kernel
theorem d_Mo_turnBody_2 : decode b_Mo_turnBody 2 = .ok (.iload_n 3, 1) := by decide +kernel
theorem d_Mo_turnBody_3 : decode b_Mo_turnBody 3 = .ok (.iload_n 2, 1) := by decide +kernel
theorem d_Mo_turnBody_4 : decode b_Mo_turnBody 4 = .ok (.if_icmp .ge 55, 3) := by decide +kernel
theorem d_Mo_turnBody_7 : decode b_Mo_turnBody 7 = .ok (.iload_n 3, 1) := by decide +kernel
theorem d_Mo_turnBody_8 : decode b_Mo_turnBody 8 = .ok (.bipush 16, 2) := by decide +kernel
theorem d_Mo_turnBody_10 : decode b_Mo_turnBody 10 = .ok (.irem, 1) := by decide +kernel
theorem d_Mo_turnBody_11 : decode b_Mo_turnBody 11 = .ok (.ifCond .ne 14, 3) := by decide +kernel
theorem d_Mo_turnBody_14 : decode b_Mo_turnBody 14 = .ok (.aload_n 0, 1) := by decide +kernel
theorem d_Mo_turnBody_15 : decode b_Mo_turnBody 15 = .ok (.iload_n 1, 1) := by decide +kernel
theorem d_Mo_turnBody_16 : decode b_Mo_turnBody 16 = .ok (.iload_n 3, 1) := by decide +kernel
theorem d_Mo_turnBody_17 : decode b_Mo_turnBody 17 = .ok (.bipush 16, 2) := by decide +kernel
theorem d_Mo_turnBody_19 : decode b_Mo_turnBody 19 = .ok (.idiv, 1) := by decide +kernel
theorem d_Mo_turnBody_20 : decode b_Mo_turnBody 20 = .ok (.iconst 2, 1) := by decide +kernel
theorem d_Mo_turnBody_21 : decode b_Mo_turnBody 21 = .ok (.iadd, 1) := by decide +kernel
theorem d_Mo_turnBody_22 : decode b_Mo_turnBody 22 = .ok (.invokevirtual 128, 3) := by decide +kernel
theorem d_Mo_turnBody_25 : decode b_Mo_turnBody 25 = .ok (.aload_n 0, 1) := by decide +kernel
theorem d_Mo_turnBody_26 : decode b_Mo_turnBody 26 = .ok (.getfield 60, 3) := by decide +kernel
theorem d_Mo_turnBody_29 : decode b_Mo_turnBody 29 = .ok (.bipush 16, 2) := by decide +kernel
theorem d_Mo_turnBody_31 : decode b_Mo_turnBody 31 = .ok (.iload_n 3, 1) := by decide +kernel
theorem d_Mo_turnBody_32 : decode b_Mo_turnBody 32 = .ok (.iadd, 1) := by decide +kernel
theorem d_Mo_turnBody_33 : decode b_Mo_turnBody 33 = .ok (.aload_n 0, 1) := by decide +kernel
theorem d_Mo_turnBody_34 : decode b_Mo_turnBody 34 = .ok (.getfield 60, 3) := by decide +kernel
theorem d_Mo_turnBody_37 : decode b_Mo_turnBody 37 = .ok (.bipush 16, 2) := by decide +kernel
theorem d_Mo_turnBody_39 : decode b_Mo_turnBody 39 = .ok (.iload_n 3, 1) := by decide +kernel
theorem d_Mo_turnBody_40 : decode b_Mo_turnBody 40 = .ok (.iadd, 1) := by decide +kernel
theorem d_Mo_turnBody_41 : decode b_Mo_turnBody 41 = .ok (.iaload, 1) := by decide +kernel
theorem d_Mo_turnBody_42 : decode b_Mo_turnBody 42 = .ok (.aload_n 0, 1) := by decide +kernel
theorem d_Mo_turnBody_43 : decode b_Mo_turnBody 43 = .ok (.getfield 72, 3) := by decide +kernel
theorem d_Mo_turnBody_46 : decode b_Mo_turnBody 46 = .ok (.iload_n 3, 1) := by decide +kernel
theorem d_Mo_turnBody_47 : decode b_Mo_turnBody 47 = .ok (.bipush 16, 2) := by decide +kernel
theorem d_Mo_turnBody_49 : decode b_Mo_turnBody 49 = .ok (.irem, 1) := by decide +kernel
theorem d_Mo_turnBody_50 : decode b_Mo_turnBody 50 = .ok (.iaload, 1) := by decide +kernel
theorem d_Mo_turnBody_51 : decode b_Mo_turnBody 51 = .ok (.ixor, 1) := by decide +kernel
theorem d_Mo_turnBody_52 : decode b_Mo_turnBody 52 = .ok (.iastore, 1) := by decide +kernel
theorem d_Mo_turnBody_53 : decode b_Mo_turnBody 53 = .ok (.iinc 3 1, 3) := by decide +kernel
theorem d_Mo_turnBody_56 : decode b_Mo_turnBody 56 = .ok (.goto (-54), 3) := by decide +kernel
theorem d_Mo_turnBody_59 : decode b_Mo_turnBody 59 = .ok (.return_, 1) := by decide +kernel
theorem d_Mo_find_0 : decode b_Mo_find 0 = .ok (.iconst 0, 1) := by decide +kernel
theorem d_Mo_find_1 : decode b_Mo_find 1 = .ok (.istore_n 2, 1) := by decide +kernel
theorem d_Mo_find_2 : decode b_Mo_find 2 = .ok (.iload_n 2, 1) := by decide +kernel
theorem d_Mo_find_3 : decode b_Mo_find 3 = .ok (.bipush 16, 2) := by decide +kernel
theorem d_Mo_find_5 : decode b_Mo_find 5 = .ok (.if_icmp .ge 30, 3) := by decide +kernel
theorem d_Mo_find_8 : decode b_Mo_find 8 = .ok (.aload_n 0, 1) := by decide +kernel
theorem d_Mo_find_9 : decode b_Mo_find 9 = .ok (.getfield 13, 3) := by decide +kernel
theorem d_Mo_find_12 : decode b_Mo_find 12 = .ok (.iload_n 2, 1) := by decide +kernel
theorem d_Mo_find_13 : decode b_Mo_find 13 = .ok (.baload, 1) := by decide +kernel
theorem d_Mo_find_14 : decode b_Mo_find 14 = .ok (.ifCond .eq 15, 3) := by decide +kernel
theorem d_Mo_find_17 : decode b_Mo_find 17 = .ok (.aload_n 0, 1) := by decide +kernel
theorem d_Mo_find_18 : decode b_Mo_find 18 = .ok (.getfield 17, 3) := by decide +kernel
theorem d_Mo_find_21 : decode b_Mo_find 21 = .ok (.iload_n 2, 1) := by decide +kernel
theorem d_Mo_find_22 : decode b_Mo_find 22 = .ok (.iaload, 1) := by decide +kernel
theorem d_Mo_find_23 : decode b_Mo_find 23 = .ok (.iload_n 1, 1) := by decide +kernel
theorem d_Mo_find_24 : decode b_Mo_find 24 = .ok (.if_icmp .ne 5, 3) := by decide +kernel
theorem d_Mo_find_27 : decode b_Mo_find 27 = .ok (.iload_n 2, 1) := by decide +kernel
theorem d_Mo_find_28 : decode b_Mo_find 28 = .ok (.ireturn, 1) := by decide +kernel
theorem d_Mo_find_29 : decode b_Mo_find 29 = .ok (.iinc 2 1, 3) := by decide +kernel
theorem d_Mo_find_32 : decode b_Mo_find 32 = .ok (.goto (-30), 3) := by decide +kernel
theorem d_Mo_find_35 : decode b_Mo_find 35 = .ok (.iconst (-1), 1) := by decide +kernel
theorem d_Mo_find_36 : decode b_Mo_find 36 = .ok (.ireturn, 1) := by decide +kernel
theorem d_Mo_greatest_0 : decode b_Mo_greatest 0 = .ok (.aload_n 0, 1) := by decide +kernel
theorem d_Mo_greatest_1 : decode b_Mo_greatest 1 = .ok (.getfield 29, 3) := by decide +kernel
theorem d_Mo_greatest_4 : decode b_Mo_greatest 4 = .ok (.iload_n 1, 1) := by decide +kernel
theorem d_Mo_greatest_5 : decode b_Mo_greatest 5 = .ok (.baload, 1) := by decide +kernel
theorem d_Mo_greatest_6 : decode b_Mo_greatest 6 = .ok (.ifCond .eq 9, 3) := by decide +kernel
theorem d_Mo_greatest_9 : decode b_Mo_greatest 9 = .ok (.ldc2_w 131, 3) := by decide +kernel
theorem d_Mo_greatest_12 : decode b_Mo_greatest 12 = .ok (.goto 6, 3) := by decide +kernel
theorem d_Mo_greatest_15 : decode b_Mo_greatest 15 = .ok (.ldc2_w 133, 3) := by decide +kernel
theorem d_Mo_greatest_18 : decode b_Mo_greatest 18 = .ok (.lreturn, 1) := by decide +kernel
theorem d_Mo_add_0 : decode b_Mo_add 0 = .ok (.aload_n 0, 1) := by decide +kernel
theorem d_Mo_add_1 : decode b_Mo_add 1 = .ok (.iload_n 1, 1) := by decide +kernel
theorem d_Mo_add_2 : decode b_Mo_add 2 = .ok (.sipush 256, 3) := by decide +kernel
theorem d_Mo_add_5 : decode b_Mo_add 5 = .ok (.if_icmp .lt 26, 3) := by decide +kernel
theorem d_Mo_add_8 : decode b_Mo_add 8 = .ok (.iload 7, 2) := by decide +kernel
theorem d_Mo_add_10 : decode b_Mo_add 10 = .ok (.bipush 32, 2) := by decide +kernel
theorem d_Mo_add_12 : decode b_Mo_add 12 = .ok (.if_icmp .lt 19, 3) := by decide +kernel
theorem d_Mo_add_15 : decode b_Mo_add 15 = .ok (.iload 7, 2) := by decide +kernel
theorem d_Mo_add_17 : decode b_Mo_add 17 = .ok (.sipush 1024, 3) := by decide +kernel
theorem d_Mo_add_20 : decode b_Mo_add 20 = .ok (.if_icmp .gt 11, 3) := by decide +kernel
theorem d_Mo_add_23 : decode b_Mo_add 23 = .ok (.iload 7, 2) := by decide +kernel
theorem d_Mo_add_25 : decode b_Mo_add 25 = .ok (.bipush 32, 2) := by decide +kernel
theorem d_Mo_add_27 : decode b_Mo_add 27 = .ok (.irem, 1) := by decide +kernel
theorem d_Mo_add_28 : decode b_Mo_add 28 = .ok (.ifCond .eq 7, 3) := by decide +kernel
theorem d_Mo_add_31 : decode b_Mo_add 31 = .ok (.iconst 1, 1) := by decide +kernel
theorem d_Mo_add_32 : decode b_Mo_add 32 = .ok (.goto 4, 3) := by decide +kernel
theorem d_Mo_add_35 : decode b_Mo_add 35 = .ok (.iconst 0, 1) := by decide +kernel
theorem d_Mo_add_36 : decode b_Mo_add 36 = .ok (.putfield 94, 3) := by decide +kernel
theorem d_Mo_add_39 : decode b_Mo_add 39 = .ok (.aload_n 0, 1) := by decide +kernel
theorem d_Mo_add_40 : decode b_Mo_add 40 = .ok (.getfield 94, 3) := by decide +kernel
theorem d_Mo_add_43 : decode b_Mo_add 43 = .ok (.ifCond .gt 11, 3) := by decide +kernel
theorem d_Mo_add_46 : decode b_Mo_add 46 = .ok (.aload_n 0, 1) := by decide +kernel
theorem d_Mo_add_47 : decode b_Mo_add 47 = .ok (.iload_n 1, 1) := by decide +kernel
theorem d_Mo_add_48 : decode b_Mo_add 48 = .ok (.invokevirtual 135, 3) := by decide +kernel
theorem d_Mo_add_51 : decode b_Mo_add 51 = .ok (.ifCond .lt 5, 3) := by decide +kernel
theorem d_Mo_add_54 : decode b_Mo_add 54 = .ok (.iconst 0, 1) := by decide +kernel
theorem d_Mo_add_55 : decode b_Mo_add 55 = .ok (.ireturn, 1) := by decide +kernel
theorem d_Mo_add_56 : decode b_Mo_add 56 = .ok (.iconst 0, 1) := by decide +kernel
theorem d_Mo_add_57 : decode b_Mo_add 57 = .ok (.istore 9, 2) := by decide +kernel
theorem d_Mo_add_59 : decode b_Mo_add 59 = .ok (.iload 9, 2) := by decide +kernel
theorem d_Mo_add_61 : decode b_Mo_add 61 = .ok (.bipush 16, 2) := by decide +kernel
theorem d_Mo_add_63 : decode b_Mo_add 63 = .ok (.if_icmp .ge 19, 3) := by decide +kernel
theorem d_Mo_add_66 : decode b_Mo_add 66 = .ok (.aload_n 0, 1) := by decide +kernel
theorem d_Mo_add_67 : decode b_Mo_add 67 = .ok (.getfield 13, 3) := by decide +kernel
theorem d_Mo_add_70 : decode b_Mo_add 70 = .ok (.iload 9, 2) := by decide +kernel
theorem d_Mo_add_72 : decode b_Mo_add 72 = .ok (.baload, 1) := by decide +kernel
theorem d_Mo_add_73 : decode b_Mo_add 73 = .ok (.ifCond .eq 9, 3) := by decide +kernel
theorem d_Mo_add_76 : decode b_Mo_add 76 = .ok (.iinc 9 1, 3) := by decide +kernel
theorem d_Mo_add_79 : decode b_Mo_add 79 = .ok (.goto (-20), 3) := by decide +kernel
theorem d_Mo_add_82 : decode b_Mo_add 82 = .ok (.iload 9, 2) := by decide +kernel
theorem d_Mo_add_84 : decode b_Mo_add 84 = .ok (.bipush 16, 2) := by decide +kernel
theorem d_Mo_add_86 : decode b_Mo_add 86 = .ok (.if_icmp .ne 5, 3) := by decide +kernel
theorem d_Mo_add_89 : decode b_Mo_add 89 = .ok (.iconst 0, 1) := by decide +kernel
theorem d_Mo_add_90 : decode b_Mo_add 90 = .ok (.ireturn, 1) := by decide +kernel
theorem d_Mo_add_91 : decode b_Mo_add 91 = .ok (.aload_n 0, 1) := by decide +kernel
theorem d_Mo_add_92 : decode b_Mo_add 92 = .ok (.getfield 13, 3) := by decide +kernel
theorem d_Mo_add_95 : decode b_Mo_add 95 = .ok (.iload 9, 2) := by decide +kernel
theorem d_Mo_add_97 : decode b_Mo_add 97 = .ok (.iconst 1, 1) := by decide +kernel
theorem d_Mo_add_98 : decode b_Mo_add 98 = .ok (.bastore, 1) := by decide +kernel
theorem d_Mo_add_99 : decode b_Mo_add 99 = .ok (.aload_n 0, 1) := by decide +kernel
theorem d_Mo_add_100 : decode b_Mo_add 100 = .ok (.getfield 17, 3) := by decide +kernel
theorem d_Mo_add_103 : decode b_Mo_add 103 = .ok (.iload 9, 2) := by decide +kernel
theorem d_Mo_add_105 : decode b_Mo_add 105 = .ok (.iload_n 1, 1) := by decide +kernel
theorem d_Mo_add_106 : decode b_Mo_add 106 = .ok (.iastore, 1) := by decide +kernel
theorem d_Mo_add_107 : decode b_Mo_add 107 = .ok (.aload_n 0, 1) := by decide +kernel
theorem d_Mo_add_108 : decode b_Mo_add 108 = .ok (.iload 9, 2) := by decide +kernel
theorem d_Mo_add_110 : decode b_Mo_add 110 = .ok (.lload_n 2, 1) := by decide +kernel
theorem d_Mo_add_111 : decode b_Mo_add 111 = .ok (.lload 4, 2) := by decide +kernel
theorem d_Mo_add_113 : decode b_Mo_add 113 = .ok (.invokevirtual 139, 3) := by decide +kernel
theorem d_Mo_add_116 : decode b_Mo_add 116 = .ok (.aload_n 0, 1) := by decide +kernel
theorem d_Mo_add_117 : decode b_Mo_add 117 = .ok (.getfield 23, 3) := by decide +kernel
theorem d_Mo_add_120 : decode b_Mo_add 120 = .ok (.iload 9, 2) := by decide +kernel
theorem d_Mo_add_122 : decode b_Mo_add 122 = .ok (.iload 6, 2) := by decide +kernel
theorem d_Mo_add_124 : decode b_Mo_add 124 = .ok (.iastore, 1) := by decide +kernel
theorem d_Mo_add_125 : decode b_Mo_add 125 = .ok (.aload_n 0, 1) := by decide +kernel
theorem d_Mo_add_126 : decode b_Mo_add 126 = .ok (.getfield 26, 3) := by decide +kernel
theorem d_Mo_add_129 : decode b_Mo_add 129 = .ok (.iload 9, 2) := by decide +kernel
theorem d_Mo_add_131 : decode b_Mo_add 131 = .ok (.iload 7, 2) := by decide +kernel
theorem d_Mo_add_133 : decode b_Mo_add 133 = .ok (.iastore, 1) := by decide +kernel
theorem d_Mo_add_134 : decode b_Mo_add 134 = .ok (.aload_n 0, 1) := by decide +kernel
theorem d_Mo_add_135 : decode b_Mo_add 135 = .ok (.getfield 29, 3) := by decide +kernel
theorem d_Mo_add_138 : decode b_Mo_add 138 = .ok (.iload 9, 2) := by decide +kernel
theorem d_Mo_add_140 : decode b_Mo_add 140 = .ok (.iload 8, 2) := by decide +kernel
theorem d_Mo_add_142 : decode b_Mo_add 142 = .ok (.bastore, 1) := by decide +kernel
theorem d_Mo_add_143 : decode b_Mo_add 143 = .ok (.aload_n 0, 1) := by decide +kernel
theorem d_Mo_add_144 : decode b_Mo_add 144 = .ok (.getfield 32, 3) := by decide +kernel
theorem d_Mo_add_147 : decode b_Mo_add 147 = .ok (.iload 9, 2) := by decide +kernel
theorem d_Mo_add_149 : decode b_Mo_add 149 = .ok (.lconst 0, 1) := by decide +kernel
theorem d_Mo_add_150 : decode b_Mo_add 150 = .ok (.lastore, 1) := by decide +kernel
theorem d_Mo_add_151 : decode b_Mo_add 151 = .ok (.aload_n 0, 1) := by decide +kernel
theorem d_Mo_add_152 : decode b_Mo_add 152 = .ok (.getfield 36, 3) := by decide +kernel
theorem d_Mo_add_155 : decode b_Mo_add 155 = .ok (.iload 9, 2) := by decide +kernel
theorem d_Mo_add_157 : decode b_Mo_add 157 = .ok (.ldc 143, 2) := by decide +kernel
theorem d_Mo_add_159 : decode b_Mo_add 159 = .ok (.iastore, 1) := by decide +kernel
theorem d_Mo_add_160 : decode b_Mo_add 160 = .ok (.aload_n 0, 1) := by decide +kernel
theorem d_Mo_add_161 : decode b_Mo_add 161 = .ok (.getfield 39, 3) := by decide +kernel
theorem d_Mo_add_164 : decode b_Mo_add 164 = .ok (.iload 9, 2) := by decide +kernel
theorem d_Mo_add_166 : decode b_Mo_add 166 = .ok (.lconst 0, 1) := by decide +kernel
theorem d_Mo_add_167 : decode b_Mo_add 167 = .ok (.lastore, 1) := by decide +kernel
theorem d_Mo_add_168 : decode b_Mo_add 168 = .ok (.aload_n 0, 1) := by decide +kernel
theorem d_Mo_add_169 : decode b_Mo_add 169 = .ok (.getfield 42, 3) := by decide +kernel
theorem d_Mo_add_172 : decode b_Mo_add 172 = .ok (.iload 9, 2) := by decide +kernel
theorem d_Mo_add_174 : decode b_Mo_add 174 = .ok (.lconst 0, 1) := by decide +kernel
theorem d_Mo_add_175 : decode b_Mo_add 175 = .ok (.lastore, 1) := by decide +kernel
theorem d_Mo_add_176 : decode b_Mo_add 176 = .ok (.aload_n 0, 1) := by decide +kernel
theorem d_Mo_add_177 : decode b_Mo_add 177 = .ok (.getfield 45, 3) := by decide +kernel
theorem d_Mo_add_180 : decode b_Mo_add 180 = .ok (.iload 9, 2) := by decide +kernel
theorem d_Mo_add_182 : decode b_Mo_add 182 = .ok (.iconst 0, 1) := by decide +kernel
theorem d_Mo_add_183 : decode b_Mo_add 183 = .ok (.iastore, 1) := by decide +kernel
theorem d_Mo_add_184 : decode b_Mo_add 184 = .ok (.aload_n 0, 1) := by decide +kernel
theorem d_Mo_add_185 : decode b_Mo_add 185 = .ok (.getfield 48, 3) := by decide +kernel
theorem d_Mo_add_188 : decode b_Mo_add 188 = .ok (.iload 9, 2) := by decide +kernel
theorem d_Mo_add_190 : decode b_Mo_add 190 = .ok (.iconst 0, 1) := by decide +kernel
theorem d_Mo_add_191 : decode b_Mo_add 191 = .ok (.iastore, 1) := by decide +kernel
theorem d_Mo_add_192 : decode b_Mo_add 192 = .ok (.aload_n 0, 1) := by decide +kernel
theorem d_Mo_add_193 : decode b_Mo_add 193 = .ok (.getfield 54, 3) := by decide +kernel
theorem d_Mo_add_196 : decode b_Mo_add 196 = .ok (.iload 9, 2) := by decide +kernel
theorem d_Mo_add_198 : decode b_Mo_add 198 = .ok (.iconst 0, 1) := by decide +kernel
theorem d_Mo_add_199 : decode b_Mo_add 199 = .ok (.iastore, 1) := by decide +kernel
theorem d_Mo_add_200 : decode b_Mo_add 200 = .ok (.iconst 1, 1) := by decide +kernel
theorem d_Mo_add_201 : decode b_Mo_add 201 = .ok (.ireturn, 1) := by decide +kernel
theorem d_Mo_drop_0 : decode b_Mo_drop 0 = .ok (.aload_n 0, 1) := by decide +kernel
theorem d_Mo_drop_1 : decode b_Mo_drop 1 = .ok (.iconst 0, 1) := by decide +kernel
theorem d_Mo_drop_2 : decode b_Mo_drop 2 = .ok (.putfield 94, 3) := by decide +kernel
theorem d_Mo_drop_5 : decode b_Mo_drop 5 = .ok (.aload_n 0, 1) := by decide +kernel
theorem d_Mo_drop_6 : decode b_Mo_drop 6 = .ok (.iload_n 1, 1) := by decide +kernel
theorem d_Mo_drop_7 : decode b_Mo_drop 7 = .ok (.invokevirtual 135, 3) := by decide +kernel
theorem d_Mo_drop_10 : decode b_Mo_drop 10 = .ok (.istore_n 2, 1) := by decide +kernel
theorem d_Mo_drop_11 : decode b_Mo_drop 11 = .ok (.iload_n 2, 1) := by decide +kernel
theorem d_Mo_drop_12 : decode b_Mo_drop 12 = .ok (.ifCond .lt 10, 3) := by decide +kernel
theorem d_Mo_drop_15 : decode b_Mo_drop 15 = .ok (.aload_n 0, 1) := by decide +kernel
theorem d_Mo_drop_16 : decode b_Mo_drop 16 = .ok (.getfield 13, 3) := by decide +kernel
theorem d_Mo_drop_19 : decode b_Mo_drop 19 = .ok (.iload_n 2, 1) := by decide +kernel
theorem d_Mo_drop_20 : decode b_Mo_drop 20 = .ok (.iconst 0, 1) := by decide +kernel
theorem d_Mo_drop_21 : decode b_Mo_drop 21 = .ok (.bastore, 1) := by decide +kernel
theorem d_Mo_drop_22 : decode b_Mo_drop 22 = .ok (.iload_n 2, 1) := by decide +kernel
theorem d_Mo_drop_23 : decode b_Mo_drop 23 = .ok (.ifCond .lt 7, 3) := by decide +kernel
theorem d_Mo_drop_26 : decode b_Mo_drop 26 = .ok (.iconst 1, 1) := by decide +kernel
theorem d_Mo_drop_27 : decode b_Mo_drop 27 = .ok (.goto 4, 3) := by decide +kernel
theorem d_Mo_drop_30 : decode b_Mo_drop 30 = .ok (.iconst 0, 1) := by decide +kernel
theorem d_Mo_drop_31 : decode b_Mo_drop 31 = .ok (.ireturn, 1) := by decide +kernel
theorem d_Mo_hurry_0 : decode b_Mo_hurry 0 = .ok (.aload_n 0, 1) := by decide +kernel
theorem d_Mo_hurry_1 : decode b_Mo_hurry 1 = .ok (.iload_n 1, 1) := by decide +kernel
theorem d_Mo_hurry_2 : decode b_Mo_hurry 2 = .ok (.invokevirtual 135, 3) := by decide +kernel
theorem d_Mo_hurry_5 : decode b_Mo_hurry 5 = .ok (.istore 4, 2) := by decide +kernel
theorem d_Mo_hurry_7 : decode b_Mo_hurry 7 = .ok (.aload_n 0, 1) := by decide +kernel
theorem d_Mo_hurry_8 : decode b_Mo_hurry 8 = .ok (.iload 4, 2) := by decide +kernel
theorem d_Mo_hurry_10 : decode b_Mo_hurry 10 = .ok (.ifCond .ge 7, 3) := by decide +kernel
theorem d_Mo_hurry_13 : decode b_Mo_hurry 13 = .ok (.iconst 1, 1) := by decide +kernel
theorem d_Mo_hurry_14 : decode b_Mo_hurry 14 = .ok (.goto 31, 3) := by decide +kernel
theorem d_Mo_hurry_17 : decode b_Mo_hurry 17 = .ok (.lload_n 2, 1) := by decide +kernel
theorem d_Mo_hurry_18 : decode b_Mo_hurry 18 = .ok (.aload_n 0, 1) := by decide +kernel
theorem d_Mo_hurry_19 : decode b_Mo_hurry 19 = .ok (.getfield 32, 3) := by decide +kernel
theorem d_Mo_hurry_22 : decode b_Mo_hurry 22 = .ok (.iload 4, 2) := by decide +kernel
theorem d_Mo_hurry_24 : decode b_Mo_hurry 24 = .ok (.laload, 1) := by decide +kernel
theorem d_Mo_hurry_25 : decode b_Mo_hurry 25 = .ok (.lcmp, 1) := by decide +kernel
theorem d_Mo_hurry_26 : decode b_Mo_hurry 26 = .ok (.ifCond .lt 14, 3) := by decide +kernel
theorem d_Mo_hurry_29 : decode b_Mo_hurry 29 = .ok (.lload_n 2, 1) := by decide +kernel
theorem d_Mo_hurry_30 : decode b_Mo_hurry 30 = .ok (.aload_n 0, 1) := by decide +kernel
theorem d_Mo_hurry_31 : decode b_Mo_hurry 31 = .ok (.iload 4, 2) := by decide +kernel
theorem d_Mo_hurry_33 : decode b_Mo_hurry 33 = .ok (.invokevirtual 144, 3) := by decide +kernel
theorem d_Mo_hurry_36 : decode b_Mo_hurry 36 = .ok (.lcmp, 1) := by decide +kernel
theorem d_Mo_hurry_37 : decode b_Mo_hurry 37 = .ok (.ifCond .le 7, 3) := by decide +kernel
theorem d_Mo_hurry_40 : decode b_Mo_hurry 40 = .ok (.iconst 2, 1) := by decide +kernel
theorem d_Mo_hurry_41 : decode b_Mo_hurry 41 = .ok (.goto 4, 3) := by decide +kernel
theorem d_Mo_hurry_44 : decode b_Mo_hurry 44 = .ok (.iconst 0, 1) := by decide +kernel
theorem d_Mo_hurry_45 : decode b_Mo_hurry 45 = .ok (.putfield 94, 3) := by decide +kernel
theorem d_Mo_hurry_48 : decode b_Mo_hurry 48 = .ok (.aload_n 0, 1) := by decide +kernel
theorem d_Mo_hurry_49 : decode b_Mo_hurry 49 = .ok (.getfield 94, 3) := by decide +kernel
theorem d_Mo_hurry_52 : decode b_Mo_hurry 52 = .ok (.ifCond .ne 11, 3) := by decide +kernel
theorem d_Mo_hurry_55 : decode b_Mo_hurry 55 = .ok (.aload_n 0, 1) := by decide +kernel
theorem d_Mo_hurry_56 : decode b_Mo_hurry 56 = .ok (.getfield 32, 3) := by decide +kernel
theorem d_Mo_hurry_59 : decode b_Mo_hurry 59 = .ok (.iload 4, 2) := by decide +kernel
theorem d_Mo_hurry_61 : decode b_Mo_hurry 61 = .ok (.lload_n 2, 1) := by decide +kernel
theorem d_Mo_hurry_62 : decode b_Mo_hurry 62 = .ok (.lastore, 1) := by decide +kernel
theorem d_Mo_hurry_63 : decode b_Mo_hurry 63 = .ok (.return_, 1) := by decide +kernel
theorem d_Mo_life_0 : decode b_Mo_life 0 = .ok (.aload_n 0, 1) := by decide +kernel
theorem d_Mo_life_1 : decode b_Mo_life 1 = .ok (.iload_n 1, 1) := by decide +kernel
theorem d_Mo_life_2 : decode b_Mo_life 2 = .ok (.invokevirtual 135, 3) := by decide +kernel
theorem d_Mo_life_5 : decode b_Mo_life 5 = .ok (.istore_n 3, 1) := by decide +kernel
theorem d_Mo_life_6 : decode b_Mo_life 6 = .ok (.aload_n 0, 1) := by decide +kernel
theorem d_Mo_life_7 : decode b_Mo_life 7 = .ok (.iload_n 3, 1) := by decide +kernel
theorem d_Mo_life_8 : decode b_Mo_life 8 = .ok (.ifCond .ge 7, 3) := by decide +kernel
theorem d_Mo_life_11 : decode b_Mo_life 11 = .ok (.iconst 1, 1) := by decide +kernel
theorem d_Mo_life_12 : decode b_Mo_life 12 = .ok (.goto 12, 3) := by decide +kernel
theorem d_Mo_life_15 : decode b_Mo_life 15 = .ok (.iload_n 2, 1) := by decide +kernel
theorem d_Mo_life_16 : decode b_Mo_life 16 = .ok (.ifCond .ge 7, 3) := by decide +kernel
theorem d_Mo_life_19 : decode b_Mo_life 19 = .ok (.iconst 2, 1) := by decide +kernel
theorem d_Mo_life_20 : decode b_Mo_life 20 = .ok (.goto 4, 3) := by decide +kernel
theorem d_Mo_life_23 : decode b_Mo_life 23 = .ok (.iconst 0, 1) := by decide +kernel
theorem d_Mo_life_24 : decode b_Mo_life 24 = .ok (.putfield 94, 3) := by decide +kernel
theorem d_Mo_life_27 : decode b_Mo_life 27 = .ok (.aload_n 0, 1) := by decide +kernel
theorem d_Mo_life_28 : decode b_Mo_life 28 = .ok (.getfield 94, 3) := by decide +kernel
theorem d_Mo_life_31 : decode b_Mo_life 31 = .ok (.ifCond .le 5, 3) := by decide +kernel
theorem d_Mo_life_34 : decode b_Mo_life 34 = .ok (.iconst 0, 1) := by decide +kernel
theorem d_Mo_life_35 : decode b_Mo_life 35 = .ok (.ireturn, 1) := by decide +kernel
theorem d_Mo_life_36 : decode b_Mo_life 36 = .ok (.aload_n 0, 1) := by decide +kernel
theorem d_Mo_life_37 : decode b_Mo_life 37 = .ok (.getfield 36, 3) := by decide +kernel
theorem d_Mo_life_40 : decode b_Mo_life 40 = .ok (.iload_n 3, 1) := by decide +kernel
theorem d_Mo_life_41 : decode b_Mo_life 41 = .ok (.iaload, 1) := by decide +kernel
theorem d_Mo_life_42 : decode b_Mo_life 42 = .ok (.istore 4, 2) := by decide +kernel
theorem d_Mo_life_44 : decode b_Mo_life 44 = .ok (.aload_n 0, 1) := by decide +kernel
theorem d_Mo_life_45 : decode b_Mo_life 45 = .ok (.getfield 36, 3) := by decide +kernel
theorem d_Mo_life_48 : decode b_Mo_life 48 = .ok (.iload_n 3, 1) := by decide +kernel
theorem d_Mo_life_49 : decode b_Mo_life 49 = .ok (.iload_n 2, 1) := by decide +kernel
theorem d_Mo_life_50 : decode b_Mo_life 50 = .ok (.iastore, 1) := by decide +kernel
theorem d_Mo_life_51 : decode b_Mo_life 51 = .ok (.iload 4, 2) := by decide +kernel
theorem d_Mo_life_53 : decode b_Mo_life 53 = .ok (.ireturn, 1) := by decide +kernel
theorem d_Mo_feed_0 : decode b_Mo_feed 0 = .ok (.aload_n 0, 1) := by decide +kernel
theorem d_Mo_feed_1 : decode b_Mo_feed 1 = .ok (.iload_n 1, 1) := by decide +kernel
theorem d_Mo_feed_2 : decode b_Mo_feed 2 = .ok (.iconst 1, 1) := by decide +kernel
theorem d_Mo_feed_3 : decode b_Mo_feed 3 = .ok (.if_icmp .lt 9, 3) := by decide +kernel
theorem d_Mo_feed_6 : decode b_Mo_feed 6 = .ok (.iload_n 1, 1) := by decide +kernel
theorem d_Mo_feed_7 : decode b_Mo_feed 7 = .ok (.bipush 8, 2) := by decide +kernel
theorem d_Mo_feed_9 : decode b_Mo_feed 9 = .ok (.if_icmp .le 7, 3) := by decide +kernel
theorem d_Mo_feed_12 : decode b_Mo_feed 12 = .ok (.iconst 1, 1) := by decide +kernel
theorem d_Mo_feed_13 : decode b_Mo_feed 13 = .ok (.goto 4, 3) := by decide +kernel
theorem d_Mo_feed_16 : decode b_Mo_feed 16 = .ok (.iconst 0, 1) := by decide +kernel
theorem d_Mo_feed_17 : decode b_Mo_feed 17 = .ok (.putfield 94, 3) := by decide +kernel
theorem d_Mo_feed_20 : decode b_Mo_feed 20 = .ok (.aload_n 0, 1) := by decide +kernel
theorem d_Mo_feed_21 : decode b_Mo_feed 21 = .ok (.getfield 94, 3) := by decide +kernel
theorem d_Mo_feed_24 : decode b_Mo_feed 24 = .ok (.ifCond .le 5, 3) := by decide +kernel
theorem d_Mo_feed_27 : decode b_Mo_feed 27 = .ok (.iconst 0, 1) := by decide +kernel
theorem d_Mo_feed_28 : decode b_Mo_feed 28 = .ok (.ireturn, 1) := by decide +kernel
theorem d_Mo_feed_29 : decode b_Mo_feed 29 = .ok (.aload_n 0, 1) := by decide +kernel
theorem d_Mo_feed_30 : decode b_Mo_feed 30 = .ok (.getfield 148, 3) := by decide +kernel
theorem d_Mo_feed_33 : decode b_Mo_feed 33 = .ok (.iload_n 1, 1) := by decide +kernel
theorem d_Mo_feed_34 : decode b_Mo_feed 34 = .ok (.iadd, 1) := by decide +kernel
theorem d_Mo_feed_35 : decode b_Mo_feed 35 = .ok (.sipush 200, 3) := by decide +kernel
theorem d_Mo_feed_38 : decode b_Mo_feed 38 = .ok (.if_icmp .le 5, 3) := by decide +kernel
theorem d_Mo_feed_41 : decode b_Mo_feed 41 = .ok (.iconst (-1), 1) := by decide +kernel
theorem d_Mo_feed_42 : decode b_Mo_feed 42 = .ok (.ireturn, 1) := by decide +kernel
theorem d_Mo_feed_43 : decode b_Mo_feed 43 = .ok (.iconst 0, 1) := by decide +kernel
theorem d_Mo_feed_44 : decode b_Mo_feed 44 = .ok (.istore 4, 2) := by decide +kernel
theorem d_Mo_feed_46 : decode b_Mo_feed 46 = .ok (.iload 4, 2) := by decide +kernel
theorem d_Mo_feed_48 : decode b_Mo_feed 48 = .ok (.iload_n 1, 1) := by decide +kernel
theorem d_Mo_feed_49 : decode b_Mo_feed 49 = .ok (.if_icmp .ge 40, 3) := by decide +kernel
theorem d_Mo_feed_52 : decode b_Mo_feed 52 = .ok (.aload_n 0, 1) := by decide +kernel
theorem d_Mo_feed_53 : decode b_Mo_feed 53 = .ok (.getfield 57, 3) := by decide +kernel
theorem d_Mo_feed_56 : decode b_Mo_feed 56 = .ok (.aload_n 0, 1) := by decide +kernel
theorem d_Mo_feed_57 : decode b_Mo_feed 57 = .ok (.getfield 148, 3) := by decide +kernel
theorem d_Mo_feed_60 : decode b_Mo_feed 60 = .ok (.lload_n 2, 1) := by decide +kernel
theorem d_Mo_feed_61 : decode b_Mo_feed 61 = .ok (.bipush 8, 2) := by decide +kernel
theorem d_Mo_feed_63 : decode b_Mo_feed 63 = .ok (.iload 4, 2) := by decide +kernel
theorem d_Mo_feed_65 : decode b_Mo_feed 65 = .ok (.imul, 1) := by decide +kernel
theorem d_Mo_feed_66 : decode b_Mo_feed 66 = .ok (.lshr, 1) := by decide +kernel
theorem d_Mo_feed_67 : decode b_Mo_feed 67 = .ok (.ldc2_w 98, 3) := by decide +kernel
theorem d_Mo_feed_70 : decode b_Mo_feed 70 = .ok (.land, 1) := by decide +kernel
theorem d_Mo_feed_71 : decode b_Mo_feed 71 = .ok (.l2i, 1) := by decide +kernel
theorem d_Mo_feed_72 : decode b_Mo_feed 72 = .ok (.iastore, 1) := by decide +kernel
theorem d_Mo_feed_73 : decode b_Mo_feed 73 = .ok (.aload_n 0, 1) := by decide +kernel
theorem d_Mo_feed_74 : decode b_Mo_feed 74 = .ok (.dup, 1) := by decide +kernel
theorem d_Mo_feed_75 : decode b_Mo_feed 75 = .ok (.getfield 148, 3) := by decide +kernel
theorem d_Mo_feed_78 : decode b_Mo_feed 78 = .ok (.iconst 1, 1) := by decide +kernel
theorem d_Mo_feed_79 : decode b_Mo_feed 79 = .ok (.iadd, 1) := by decide +kernel
theorem d_Mo_feed_80 : decode b_Mo_feed 80 = .ok (.putfield 148, 3) := by decide +kernel
theorem d_Mo_feed_83 : decode b_Mo_feed 83 = .ok (.iinc 4 1, 3) := by decide +kernel
theorem d_Mo_feed_86 : decode b_Mo_feed 86 = .ok (.goto (-40), 3) := by decide +kernel
theorem d_Mo_feed_89 : decode b_Mo_feed 89 = .ok (.aload_n 0, 1) := by decide +kernel
theorem d_Mo_feed_90 : decode b_Mo_feed 90 = .ok (.getfield 148, 3) := by decide +kernel
theorem d_Mo_feed_93 : decode b_Mo_feed 93 = .ok (.ireturn, 1) := by decide +kernel
theorem d_Mo_wipe_0 : decode b_Mo_wipe 0 = .ok (.aload_n 0, 1) := by decide +kernel
theorem d_Mo_wipe_1 : decode b_Mo_wipe 1 = .ok (.iconst 0, 1) := by decide +kernel
theorem d_Mo_wipe_2 : decode b_Mo_wipe 2 = .ok (.putfield 94, 3) := by decide +kernel
theorem d_Mo_wipe_5 : decode b_Mo_wipe 5 = .ok (.aload_n 0, 1) := by decide +kernel
theorem d_Mo_wipe_6 : decode b_Mo_wipe 6 = .ok (.getfield 148, 3) := by decide +kernel
theorem d_Mo_wipe_9 : decode b_Mo_wipe 9 = .ok (.istore_n 1, 1) := by decide +kernel
theorem d_Mo_wipe_10 : decode b_Mo_wipe 10 = .ok (.aload_n 0, 1) := by decide +kernel
theorem d_Mo_wipe_11 : decode b_Mo_wipe 11 = .ok (.iconst 0, 1) := by decide +kernel
theorem d_Mo_wipe_12 : decode b_Mo_wipe 12 = .ok (.putfield 148, 3) := by decide +kernel
theorem d_Mo_wipe_15 : decode b_Mo_wipe 15 = .ok (.iload_n 1, 1) := by decide +kernel
theorem d_Mo_wipe_16 : decode b_Mo_wipe 16 = .ok (.ireturn, 1) := by decide +kernel
theorem d_Mo_put_0 : decode b_Mo_put 0 = .ok (.aload_n 0, 1) := by decide +kernel
theorem d_Mo_put_1 : decode b_Mo_put 1 = .ok (.getfield 60, 3) := by decide +kernel
theorem d_Mo_put_4 : decode b_Mo_put 4 = .ok (.aload_n 0, 1) := by decide +kernel
theorem d_Mo_put_5 : decode b_Mo_put 5 = .ok (.getfield 151, 3) := by decide +kernel
theorem d_Mo_put_8 : decode b_Mo_put 8 = .ok (.iload_n 1, 1) := by decide +kernel
theorem d_Mo_put_9 : decode b_Mo_put 9 = .ok (.iastore, 1) := by decide +kernel
theorem d_Mo_put_10 : decode b_Mo_put 10 = .ok (.aload_n 0, 1) := by decide +kernel
theorem d_Mo_put_11 : decode b_Mo_put 11 = .ok (.dup, 1) := by decide +kernel
theorem d_Mo_put_12 : decode b_Mo_put 12 = .ok (.getfield 151, 3) := by decide +kernel
theorem d_Mo_put_15 : decode b_Mo_put 15 = .ok (.iconst 1, 1) := by decide +kernel
theorem d_Mo_put_16 : decode b_Mo_put 16 = .ok (.iadd, 1) := by decide +kernel
theorem d_Mo_put_17 : decode b_Mo_put 17 = .ok (.putfield 151, 3) := by decide +kernel
theorem d_Mo_put_20 : decode b_Mo_put 20 = .ok (.return_, 1) := by decide +kernel
theorem d_Mo_seal_0 : decode b_Mo_seal 0 = .ok (.aload_n 0, 1) := by decide +kernel
theorem d_Mo_seal_1 : decode b_Mo_seal 1 = .ok (.iload_n 1, 1) := by decide +kernel
theorem d_Mo_seal_2 : decode b_Mo_seal 2 = .ok (.invokevirtual 135, 3) := by decide +kernel
theorem d_Mo_seal_5 : decode b_Mo_seal 5 = .ok (.istore_n 3, 1) := by decide +kernel
theorem d_Mo_seal_6 : decode b_Mo_seal 6 = .ok (.aload_n 0, 1) := by decide +kernel
theorem d_Mo_seal_7 : decode b_Mo_seal 7 = .ok (.iload_n 3, 1) := by decide +kernel
theorem d_Mo_seal_8 : decode b_Mo_seal 8 = .ok (.ifCond .ge 7, 3) := by decide +kernel
theorem d_Mo_seal_11 : decode b_Mo_seal 11 = .ok (.iconst 1, 1) := by decide +kernel
theorem d_Mo_seal_12 : decode b_Mo_seal 12 = .ok (.goto 19, 3) := by decide +kernel
theorem d_Mo_seal_15 : decode b_Mo_seal 15 = .ok (.iload_n 2, 1) := by decide +kernel
theorem d_Mo_seal_16 : decode b_Mo_seal 16 = .ok (.ifCond .lt 10, 3) := by decide +kernel
theorem d_Mo_seal_19 : decode b_Mo_seal 19 = .ok (.iload_n 2, 1) := by decide +kernel
theorem d_Mo_seal_20 : decode b_Mo_seal 20 = .ok (.sipush 255, 3) := by decide +kernel
theorem d_Mo_seal_23 : decode b_Mo_seal 23 = .ok (.if_icmp .le 7, 3) := by decide +kernel
theorem d_Mo_seal_26 : decode b_Mo_seal 26 = .ok (.iconst 2, 1) := by decide +kernel
theorem d_Mo_seal_27 : decode b_Mo_seal 27 = .ok (.goto 4, 3) := by decide +kernel
theorem d_Mo_seal_30 : decode b_Mo_seal 30 = .ok (.iconst 0, 1) := by decide +kernel
theorem d_Mo_seal_31 : decode b_Mo_seal 31 = .ok (.putfield 94, 3) := by decide +kernel
theorem d_Mo_seal_34 : decode b_Mo_seal 34 = .ok (.aload_n 0, 1) := by decide +kernel
theorem d_Mo_seal_35 : decode b_Mo_seal 35 = .ok (.getfield 94, 3) := by decide +kernel

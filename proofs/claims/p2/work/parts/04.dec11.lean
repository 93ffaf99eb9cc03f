theorem d_La_told_21 : decode b_La_told 21 = .ok (.ireturn, 1) := by decide +kernel
theorem d_La_given_0 : decode b_La_given 0 = .ok (.aload_n 3, 1) := by decide +kernel
theorem d_La_given_1 : decode b_La_given 1 = .ok (.iconst 0, 1) := by decide +kernel
theorem d_La_given_2 : decode b_La_given 2 = .ok (.aload_n 0, 1) := by decide +kernel
theorem d_La_given_3 : decode b_La_given 3 = .ok (.iload_n 1, 1) := by decide +kernel
theorem d_La_given_4 : decode b_La_given 4 = .ok (.iload_n 2, 1) := by decide +kernel
theorem d_La_given_5 : decode b_La_given 5 = .ok (.invokevirtual 52, 3) := by decide +kernel
theorem d_La_given_8 : decode b_La_given 8 = .ok (.lastore, 1) := by decide +kernel
theorem d_La_given_9 : decode b_La_given 9 = .ok (.goto 11, 3) := by decide +kernel
theorem d_La_given_12 : decode b_La_given 12 = .ok (.astore 4, 2) := by decide +kernel
theorem d_La_given_14 : decode b_La_given 14 = .ok (.iconst 1, 1) := by decide +kernel
theorem d_La_given_15 : decode b_La_given 15 = .ok (.ireturn, 1) := by decide +kernel
theorem d_La_given_16 : decode b_La_given 16 = .ok (.astore 4, 2) := by decide +kernel
theorem d_La_given_18 : decode b_La_given 18 = .ok (.iconst 2, 1) := by decide +kernel
theorem d_La_given_19 : decode b_La_given 19 = .ok (.ireturn, 1) := by decide +kernel
theorem d_La_given_20 : decode b_La_given 20 = .ok (.iconst 0, 1) := by decide +kernel
theorem d_La_given_21 : decode b_La_given 21 = .ok (.ireturn, 1) := by decide +kernel
theorem d_La_law_0 : decode b_La_law 0 = .ok (.new 8, 3) := by decide +kernel
theorem d_La_law_3 : decode b_La_law 3 = .ok (.dup, 1) := by decide +kernel
theorem d_La_law_4 : decode b_La_law 4 = .ok (.invokespecial 55, 3) := by decide +kernel
theorem d_La_law_7 : decode b_La_law 7 = .ok (.astore_n 1, 1) := by decide +kernel
theorem d_La_law_8 : decode b_La_law 8 = .ok (.new 56, 3) := by decide +kernel
theorem d_La_law_11 : decode b_La_law 11 = .ok (.dup, 1) := by decide +kernel
theorem d_La_law_12 : decode b_La_law 12 = .ok (.invokespecial 58, 3) := by decide +kernel
theorem d_La_law_15 : decode b_La_law 15 = .ok (.astore_n 2, 1) := by decide +kernel
theorem d_La_law_16 : decode b_La_law 16 = .ok (.iconst 1, 1) := by decide +kernel
theorem d_La_law_17 : decode b_La_law 17 = .ok (.newarray .long, 2) := by decide +kernel
theorem d_La_law_19 : decode b_La_law 19 = .ok (.astore_n 3, 1) := by decide +kernel
theorem d_La_law_20 : decode b_La_law 20 = .ok (.iconst 0, 1) := by decide +kernel
theorem d_La_law_21 : decode b_La_law 21 = .ok (.istore 4, 2) := by decide +kernel
theorem d_La_law_23 : decode b_La_law 23 = .ok (.iload 4, 2) := by decide +kernel
theorem d_La_law_25 : decode b_La_law 25 = .ok (.aload_n 0, 1) := by decide +kernel
theorem d_La_law_26 : decode b_La_law 26 = .ok (.arraylength, 1) := by decide +kernel
theorem d_La_law_27 : decode b_La_law 27 = .ok (.bipush 9, 2) := by decide +kernel
theorem d_La_law_29 : decode b_La_law 29 = .ok (.isub, 1) := by decide +kernel
theorem d_La_law_30 : decode b_La_law 30 = .ok (.if_icmp .gt 888, 3) := by decide +kernel
theorem d_La_law_33 : decode b_La_law 33 = .ok (.aload_n 0, 1) := by decide +kernel
theorem d_La_law_34 : decode b_La_law 34 = .ok (.iload 4, 2) := by decide +kernel
theorem d_La_law_36 : decode b_La_law 36 = .ok (.iaload, 1) := by decide +kernel
theorem d_La_law_37 : decode b_La_law 37 = .ok (.bipush 31, 2) := by decide +kernel
theorem d_La_law_39 : decode b_La_law 39 = .ok (.iand, 1) := by decide +kernel
theorem d_La_law_40 : decode b_La_law 40 = .ok (.tableswitch 872 0 18 #[92, 301, 326, 395, 435, 507, 520, 560, 573, 598, 638, 663, 688, 716, 729, 742, 767, 807, 847], 92) := by decide +kernel
theorem d_La_law_132 : decode b_La_law 132 = .ok (.aload_n 1, 1) := by decide +kernel
theorem d_La_law_133 : decode b_La_law 133 = .ok (.aload_n 0, 1) := by decide +kernel
theorem d_La_law_134 : decode b_La_law 134 = .ok (.iload 4, 2) := by decide +kernel
theorem d_La_law_136 : decode b_La_law 136 = .ok (.iconst 1, 1) := by decide +kernel
theorem d_La_law_137 : decode b_La_law 137 = .ok (.iadd, 1) := by decide +kernel
theorem d_La_law_138 : decode b_La_law 138 = .ok (.iaload, 1) := by decide +kernel
theorem d_La_law_139 : decode b_La_law 139 = .ok (.aload_n 0, 1) := by decide +kernel
theorem d_La_law_140 : decode b_La_law 140 = .ok (.iload 4, 2) := by decide +kernel
theorem d_La_law_142 : decode b_La_law 142 = .ok (.iconst 2, 1) := by decide +kernel
theorem d_La_law_143 : decode b_La_law 143 = .ok (.iadd, 1) := by decide +kernel
theorem d_La_law_144 : decode b_La_law 144 = .ok (.iaload, 1) := by decide +kernel
theorem d_La_law_145 : decode b_La_law 145 = .ok (.i2l, 1) := by decide +kernel
theorem d_La_law_146 : decode b_La_law 146 = .ok (.bipush 32, 2) := by decide +kernel
theorem d_La_law_148 : decode b_La_law 148 = .ok (.lshl, 1) := by decide +kernel
theorem d_La_law_149 : decode b_La_law 149 = .ok (.aload_n 0, 1) := by decide +kernel
theorem d_La_law_150 : decode b_La_law 150 = .ok (.iload 4, 2) := by decide +kernel
theorem d_La_law_152 : decode b_La_law 152 = .ok (.iconst 3, 1) := by decide +kernel
theorem d_La_law_153 : decode b_La_law 153 = .ok (.iadd, 1) := by decide +kernel
theorem d_La_law_154 : decode b_La_law 154 = .ok (.iaload, 1) := by decide +kernel
theorem d_La_law_155 : decode b_La_law 155 = .ok (.i2l, 1) := by decide +kernel
theorem d_La_law_156 : decode b_La_law 156 = .ok (.ldc2_w 59, 3) := by decide +kernel
theorem d_La_law_159 : decode b_La_law 159 = .ok (.land, 1) := by decide +kernel
theorem d_La_law_160 : decode b_La_law 160 = .ok (.lor, 1) := by decide +kernel
theorem d_La_law_161 : decode b_La_law 161 = .ok (.aload_n 0, 1) := by decide +kernel
theorem d_La_law_162 : decode b_La_law 162 = .ok (.iload 4, 2) := by decide +kernel
theorem d_La_law_164 : decode b_La_law 164 = .ok (.iconst 4, 1) := by decide +kernel
theorem d_La_law_165 : decode b_La_law 165 = .ok (.iadd, 1) := by decide +kernel
theorem d_La_law_166 : decode b_La_law 166 = .ok (.iaload, 1) := by decide +kernel
theorem d_La_law_167 : decode b_La_law 167 = .ok (.i2l, 1) := by decide +kernel
theorem d_La_law_168 : decode b_La_law 168 = .ok (.bipush 32, 2) := by decide +kernel
theorem d_La_law_170 : decode b_La_law 170 = .ok (.lshl, 1) := by decide +kernel
theorem d_La_law_171 : decode b_La_law 171 = .ok (.aload_n 0, 1) := by decide +kernel
theorem d_La_law_172 : decode b_La_law 172 = .ok (.iload 4, 2) := by decide +kernel
theorem d_La_law_174 : decode b_La_law 174 = .ok (.iconst 5, 1) := by decide +kernel
theorem d_La_law_175 : decode b_La_law 175 = .ok (.iadd, 1) := by decide +kernel
theorem d_La_law_176 : decode b_La_law 176 = .ok (.iaload, 1) := by decide +kernel
theorem d_La_law_177 : decode b_La_law 177 = .ok (.i2l, 1) := by decide +kernel
theorem d_La_law_178 : decode b_La_law 178 = .ok (.ldc2_w 59, 3) := by decide +kernel
theorem d_La_law_181 : decode b_La_law 181 = .ok (.land, 1) := by decide +kernel
theorem d_La_law_182 : decode b_La_law 182 = .ok (.lor, 1) := by decide +kernel
theorem d_La_law_183 : decode b_La_law 183 = .ok (.aload_n 0, 1) := by decide +kernel
theorem d_La_law_184 : decode b_La_law 184 = .ok (.iload 4, 2) := by decide +kernel
theorem d_La_law_186 : decode b_La_law 186 = .ok (.bipush 6, 2) := by decide +kernel
theorem d_La_law_188 : decode b_La_law 188 = .ok (.iadd, 1) := by decide +kernel
theorem d_La_law_189 : decode b_La_law 189 = .ok (.iaload, 1) := by decide +kernel
theorem d_La_law_190 : decode b_La_law 190 = .ok (.aload_n 0, 1) := by decide +kernel
theorem d_La_law_191 : decode b_La_law 191 = .ok (.iload 4, 2) := by decide +kernel
theorem d_La_law_193 : decode b_La_law 193 = .ok (.bipush 7, 2) := by decide +kernel
theorem d_La_law_195 : decode b_La_law 195 = .ok (.iadd, 1) := by decide +kernel
theorem d_La_law_196 : decode b_La_law 196 = .ok (.iaload, 1) := by decide +kernel
theorem d_La_law_197 : decode b_La_law 197 = .ok (.aload_n 0, 1) := by decide +kernel
theorem d_La_law_198 : decode b_La_law 198 = .ok (.iload 4, 2) := by decide +kernel
theorem d_La_law_200 : decode b_La_law 200 = .ok (.bipush 8, 2) := by decide +kernel
theorem d_La_law_202 : decode b_La_law 202 = .ok (.iadd, 1) := by decide +kernel
theorem d_La_law_203 : decode b_La_law 203 = .ok (.iaload, 1) := by decide +kernel
theorem d_La_law_204 : decode b_La_law 204 = .ok (.ifCond .eq 7, 3) := by decide +kernel
theorem d_La_law_207 : decode b_La_law 207 = .ok (.iconst 1, 1) := by decide +kernel
theorem d_La_law_208 : decode b_La_law 208 = .ok (.goto 4, 3) := by decide +kernel
theorem d_La_law_211 : decode b_La_law 211 = .ok (.iconst 0, 1) := by decide +kernel
theorem d_La_law_212 : decode b_La_law 212 = .ok (.aload_n 3, 1) := by decide +kernel
theorem d_La_law_213 : decode b_La_law 213 = .ok (.invokestatic 61, 3) := by decide +kernel
theorem d_La_law_216 : decode b_La_law 216 = .ok (.istore 5, 2) := by decide +kernel
theorem d_La_law_218 : decode b_La_law 218 = .ok (.aload_n 2, 1) := by decide +kernel
theorem d_La_law_219 : decode b_La_law 219 = .ok (.aload_n 0, 1) := by decide +kernel
theorem d_La_law_220 : decode b_La_law 220 = .ok (.iload 4, 2) := by decide +kernel
theorem d_La_law_222 : decode b_La_law 222 = .ok (.iconst 1, 1) := by decide +kernel
theorem d_La_law_223 : decode b_La_law 223 = .ok (.iadd, 1) := by decide +kernel
theorem d_La_law_224 : decode b_La_law 224 = .ok (.iaload, 1) := by decide +kernel
theorem d_La_law_225 : decode b_La_law 225 = .ok (.aload_n 0, 1) := by decide +kernel
theorem d_La_law_226 : decode b_La_law 226 = .ok (.iload 4, 2) := by decide +kernel
theorem d_La_law_228 : decode b_La_law 228 = .ok (.iconst 2, 1) := by decide +kernel
theorem d_La_law_229 : decode b_La_law 229 = .ok (.iadd, 1) := by decide +kernel
theorem d_La_law_230 : decode b_La_law 230 = .ok (.iaload, 1) := by decide +kernel
theorem d_La_law_231 : decode b_La_law 231 = .ok (.i2l, 1) := by decide +kernel
theorem d_La_law_232 : decode b_La_law 232 = .ok (.bipush 32, 2) := by decide +kernel
theorem d_La_law_234 : decode b_La_law 234 = .ok (.lshl, 1) := by decide +kernel
theorem d_La_law_235 : decode b_La_law 235 = .ok (.aload_n 0, 1) := by decide +kernel
theorem d_La_law_236 : decode b_La_law 236 = .ok (.iload 4, 2) := by decide +kernel
theorem d_La_law_238 : decode b_La_law 238 = .ok (.iconst 3, 1) := by decide +kernel
theorem d_La_law_239 : decode b_La_law 239 = .ok (.iadd, 1) := by decide +kernel
theorem d_La_law_240 : decode b_La_law 240 = .ok (.iaload, 1) := by decide +kernel
theorem d_La_law_241 : decode b_La_law 241 = .ok (.i2l, 1) := by decide +kernel
theorem d_La_law_242 : decode b_La_law 242 = .ok (.ldc2_w 59, 3) := by decide +kernel
theorem d_La_law_245 : decode b_La_law 245 = .ok (.land, 1) := by decide +kernel
theorem d_La_law_246 : decode b_La_law 246 = .ok (.lor, 1) := by decide +kernel
theorem d_La_law_247 : decode b_La_law 247 = .ok (.aload_n 0, 1) := by decide +kernel
theorem d_La_law_248 : decode b_La_law 248 = .ok (.iload 4, 2) := by decide +kernel
theorem d_La_law_250 : decode b_La_law 250 = .ok (.iconst 4, 1) := by decide +kernel
theorem d_La_law_251 : decode b_La_law 251 = .ok (.iadd, 1) := by decide +kernel
theorem d_La_law_252 : decode b_La_law 252 = .ok (.iaload, 1) := by decide +kernel
theorem d_La_law_253 : decode b_La_law 253 = .ok (.i2l, 1) := by decide +kernel
theorem d_La_law_254 : decode b_La_law 254 = .ok (.bipush 32, 2) := by decide +kernel
theorem d_La_law_256 : decode b_La_law 256 = .ok (.lshl, 1) := by decide +kernel
theorem d_La_law_257 : decode b_La_law 257 = .ok (.aload_n 0, 1) := by decide +kernel
theorem d_La_law_258 : decode b_La_law 258 = .ok (.iload 4, 2) := by decide +kernel
theorem d_La_law_260 : decode b_La_law 260 = .ok (.iconst 5, 1) := by decide +kernel
theorem d_La_law_261 : decode b_La_law 261 = .ok (.iadd, 1) := by decide +kernel
theorem d_La_law_262 : decode b_La_law 262 = .ok (.iaload, 1) := by decide +kernel
theorem d_La_law_263 : decode b_La_law 263 = .ok (.i2l, 1) := by decide +kernel
theorem d_La_law_264 : decode b_La_law 264 = .ok (.ldc2_w 59, 3) := by decide +kernel
theorem d_La_law_267 : decode b_La_law 267 = .ok (.land, 1) := by decide +kernel
theorem d_La_law_268 : decode b_La_law 268 = .ok (.lor, 1) := by decide +kernel
theorem d_La_law_269 : decode b_La_law 269 = .ok (.aload_n 0, 1) := by decide +kernel
theorem d_La_law_270 : decode b_La_law 270 = .ok (.iload 4, 2) := by decide +kernel
theorem d_La_law_272 : decode b_La_law 272 = .ok (.bipush 6, 2) := by decide +kernel
theorem d_La_law_274 : decode b_La_law 274 = .ok (.iadd, 1) := by decide +kernel
theorem d_La_law_275 : decode b_La_law 275 = .ok (.iaload, 1) := by decide +kernel
theorem d_La_law_276 : decode b_La_law 276 = .ok (.aload_n 0, 1) := by decide +kernel
theorem d_La_law_277 : decode b_La_law 277 = .ok (.iload 4, 2) := by decide +kernel
theorem d_La_law_279 : decode b_La_law 279 = .ok (.bipush 7, 2) := by decide +kernel
theorem d_La_law_281 : decode b_La_law 281 = .ok (.iadd, 1) := by decide +kernel
theorem d_La_law_282 : decode b_La_law 282 = .ok (.iaload, 1) := by decide +kernel
theorem d_La_law_283 : decode b_La_law 283 = .ok (.aload_n 0, 1) := by decide +kernel
theorem d_La_law_284 : decode b_La_law 284 = .ok (.iload 4, 2) := by decide +kernel
theorem d_La_law_286 : decode b_La_law 286 = .ok (.bipush 8, 2) := by decide +kernel
theorem d_La_law_288 : decode b_La_law 288 = .ok (.iadd, 1) := by decide +kernel
theorem d_La_law_289 : decode b_La_law 289 = .ok (.iaload, 1) := by decide +kernel
theorem d_La_law_290 : decode b_La_law 290 = .ok (.ifCond .eq 7, 3) := by decide +kernel
theorem d_La_law_293 : decode b_La_law 293 = .ok (.iconst 1, 1) := by decide +kernel
theorem d_La_law_294 : decode b_La_law 294 = .ok (.goto 4, 3) := by decide +kernel
theorem d_La_law_297 : decode b_La_law 297 = .ok (.iconst 0, 1) := by decide +kernel
theorem d_La_law_298 : decode b_La_law 298 = .ok (.invokevirtual 66, 3) := by decide +kernel
theorem d_La_law_301 : decode b_La_law 301 = .ok (.istore 6, 2) := by decide +kernel
theorem d_La_law_303 : decode b_La_law 303 = .ok (.aload_n 2, 1) := by decide +kernel
theorem d_La_law_304 : decode b_La_law 304 = .ok (.invokevirtual 67, 3) := by decide +kernel
theorem d_La_law_307 : decode b_La_law 307 = .ok (.iload 5, 2) := by decide +kernel
theorem d_La_law_309 : decode b_La_law 309 = .ok (.if_icmp .eq 5, 3) := by decide +kernel
theorem d_La_law_312 : decode b_La_law 312 = .ok (.iconst 0, 1) := by decide +kernel
theorem d_La_law_313 : decode b_La_law 313 = .ok (.ireturn, 1) := by decide +kernel
theorem d_La_law_314 : decode b_La_law 314 = .ok (.iload 5, 2) := by decide +kernel
theorem d_La_law_316 : decode b_La_law 316 = .ok (.ifCond .ne 22, 3) := by decide +kernel
theorem d_La_law_319 : decode b_La_law 319 = .ok (.aload_n 3, 1) := by decide +kernel
theorem d_La_law_320 : decode b_La_law 320 = .ok (.iconst 0, 1) := by decide +kernel
theorem d_La_law_321 : decode b_La_law 321 = .ok (.laload, 1) := by decide +kernel
theorem d_La_law_322 : decode b_La_law 322 = .ok (.iload 6, 2) := by decide +kernel
theorem d_La_law_324 : decode b_La_law 324 = .ok (.ifCond .eq 7, 3) := by decide +kernel
theorem d_La_law_327 : decode b_La_law 327 = .ok (.lconst 1, 1) := by decide +kernel
theorem d_La_law_328 : decode b_La_law 328 = .ok (.goto 4, 3) := by decide +kernel
theorem d_La_law_331 : decode b_La_law 331 = .ok (.lconst 0, 1) := by decide +kernel
theorem d_La_law_332 : decode b_La_law 332 = .ok (.lcmp, 1) := by decide +kernel
theorem d_La_law_333 : decode b_La_law 333 = .ok (.ifCond .eq 5, 3) := by decide +kernel
theorem d_La_law_336 : decode b_La_law 336 = .ok (.iconst 0, 1) := by decide +kernel
theorem d_La_law_337 : decode b_La_law 337 = .ok (.ireturn, 1) := by decide +kernel
theorem d_La_law_338 : decode b_La_law 338 = .ok (.goto 574, 3) := by decide +kernel
theorem d_La_law_341 : decode b_La_law 341 = .ok (.aload_n 1, 1) := by decide +kernel
theorem d_La_law_342 : decode b_La_law 342 = .ok (.aload_n 0, 1) := by decide +kernel
theorem d_La_law_343 : decode b_La_law 343 = .ok (.iload 4, 2) := by decide +kernel
theorem d_La_law_345 : decode b_La_law 345 = .ok (.iconst 1, 1) := by decide +kernel
theorem d_La_law_346 : decode b_La_law 346 = .ok (.iadd, 1) := by decide +kernel
theorem d_La_law_347 : decode b_La_law 347 = .ok (.iaload, 1) := by decide +kernel
theorem d_La_law_348 : decode b_La_law 348 = .ok (.invokevirtual 71, 3) := by decide +kernel
theorem d_La_law_351 : decode b_La_law 351 = .ok (.pop, 1) := by decide +kernel
theorem d_La_law_352 : decode b_La_law 352 = .ok (.aload_n 2, 1) := by decide +kernel
theorem d_La_law_353 : decode b_La_law 353 = .ok (.aload_n 0, 1) := by decide +kernel
theorem d_La_law_354 : decode b_La_law 354 = .ok (.iload 4, 2) := by decide +kernel
theorem d_La_law_356 : decode b_La_law 356 = .ok (.iconst 1, 1) := by decide +kernel
theorem d_La_law_357 : decode b_La_law 357 = .ok (.iadd, 1) := by decide +kernel
theorem d_La_law_358 : decode b_La_law 358 = .ok (.iaload, 1) := by decide +kernel
theorem d_La_law_359 : decode b_La_law 359 = .ok (.invokevirtual 75, 3) := by decide +kernel
theorem d_La_law_362 : decode b_La_law 362 = .ok (.pop, 1) := by decide +kernel
theorem d_La_law_363 : decode b_La_law 363 = .ok (.goto 549, 3) := by decide +kernel
theorem d_La_law_366 : decode b_La_law 366 = .ok (.aload_n 1, 1) := by decide +kernel
theorem d_La_law_367 : decode b_La_law 367 = .ok (.aload_n 0, 1) := by decide +kernel
theorem d_La_law_368 : decode b_La_law 368 = .ok (.iload 4, 2) := by decide +kernel
theorem d_La_law_370 : decode b_La_law 370 = .ok (.iconst 1, 1) := by decide +kernel
theorem d_La_law_371 : decode b_La_law 371 = .ok (.iadd, 1) := by decide +kernel
theorem d_La_law_372 : decode b_La_law 372 = .ok (.iaload, 1) := by decide +kernel
theorem d_La_law_373 : decode b_La_law 373 = .ok (.aload_n 0, 1) := by decide +kernel
theorem d_La_law_374 : decode b_La_law 374 = .ok (.iload 4, 2) := by decide +kernel
theorem d_La_law_376 : decode b_La_law 376 = .ok (.iconst 2, 1) := by decide +kernel
theorem d_La_law_377 : decode b_La_law 377 = .ok (.iadd, 1) := by decide +kernel
theorem d_La_law_378 : decode b_La_law 378 = .ok (.iaload, 1) := by decide +kernel
theorem d_La_law_379 : decode b_La_law 379 = .ok (.i2l, 1) := by decide +kernel
theorem d_La_law_380 : decode b_La_law 380 = .ok (.bipush 32, 2) := by decide +kernel
theorem d_La_law_382 : decode b_La_law 382 = .ok (.lshl, 1) := by decide +kernel
theorem d_La_law_383 : decode b_La_law 383 = .ok (.aload_n 0, 1) := by decide +kernel
theorem d_La_law_384 : decode b_La_law 384 = .ok (.iload 4, 2) := by decide +kernel
theorem d_La_law_386 : decode b_La_law 386 = .ok (.iconst 3, 1) := by decide +kernel
theorem d_La_law_387 : decode b_La_law 387 = .ok (.iadd, 1) := by decide +kernel
theorem d_La_law_388 : decode b_La_law 388 = .ok (.iaload, 1) := by decide +kernel
theorem d_La_law_389 : decode b_La_law 389 = .ok (.i2l, 1) := by decide +kernel
theorem d_La_law_390 : decode b_La_law 390 = .ok (.ldc2_w 59, 3) := by decide +kernel
theorem d_La_law_393 : decode b_La_law 393 = .ok (.land, 1) := by decide +kernel
theorem d_La_law_394 : decode b_La_law 394 = .ok (.lor, 1) := by decide +kernel
theorem d_La_law_395 : decode b_La_law 395 = .ok (.invokestatic 76, 3) := by decide +kernel
theorem d_La_law_398 : decode b_La_law 398 = .ok (.istore 5, 2) := by decide +kernel
theorem d_La_law_400 : decode b_La_law 400 = .ok (.aload_n 2, 1) := by decide +kernel
theorem d_La_law_401 : decode b_La_law 401 = .ok (.aload_n 0, 1) := by decide +kernel
theorem d_La_law_402 : decode b_La_law 402 = .ok (.iload 4, 2) := by decide +kernel
theorem d_La_law_404 : decode b_La_law 404 = .ok (.iconst 1, 1) := by decide +kernel
theorem d_La_law_405 : decode b_La_law 405 = .ok (.iadd, 1) := by decide +kernel
theorem d_La_law_406 : decode b_La_law 406 = .ok (.iaload, 1) := by decide +kernel
theorem d_La_law_407 : decode b_La_law 407 = .ok (.aload_n 0, 1) := by decide +kernel
theorem d_La_law_408 : decode b_La_law 408 = .ok (.iload 4, 2) := by decide +kernel
theorem d_La_law_410 : decode b_La_law 410 = .ok (.iconst 2, 1) := by decide +kernel
theorem d_La_law_411 : decode b_La_law 411 = .ok (.iadd, 1) := by decide +kernel
theorem d_La_law_412 : decode b_La_law 412 = .ok (.iaload, 1) := by decide +kernel
theorem d_La_law_413 : decode b_La_law 413 = .ok (.i2l, 1) := by decide +kernel
theorem d_La_law_414 : decode b_La_law 414 = .ok (.bipush 32, 2) := by decide +kernel
theorem d_La_law_416 : decode b_La_law 416 = .ok (.lshl, 1) := by decide +kernel
theorem d_La_law_417 : decode b_La_law 417 = .ok (.aload_n 0, 1) := by decide +kernel
theorem d_La_law_418 : decode b_La_law 418 = .ok (.iload 4, 2) := by decide +kernel
theorem d_La_law_420 : decode b_La_law 420 = .ok (.iconst 3, 1) := by decide +kernel
theorem d_La_law_421 : decode b_La_law 421 = .ok (.iadd, 1) := by decide +kernel
theorem d_La_law_422 : decode b_La_law 422 = .ok (.iaload, 1) := by decide +kernel
theorem d_La_law_423 : decode b_La_law 423 = .ok (.i2l, 1) := by decide +kernel
theorem d_La_law_424 : decode b_La_law 424 = .ok (.ldc2_w 59, 3) := by decide +kernel
theorem d_La_law_427 : decode b_La_law 427 = .ok (.land, 1) := by decide +kernel
theorem d_La_law_428 : decode b_La_law 428 = .ok (.lor, 1) := by decide +kernel
theorem d_La_law_429 : decode b_La_law 429 = .ok (.invokevirtual 79, 3) := by decide +kernel
theorem d_La_law_432 : decode b_La_law 432 = .ok (.goto 480, 3) := by decide +kernel
theorem d_La_law_435 : decode b_La_law 435 = .ok (.aload_n 1, 1) := by decide +kernel
theorem d_La_law_436 : decode b_La_law 436 = .ok (.aload_n 0, 1) := by decide +kernel
theorem d_La_law_437 : decode b_La_law 437 = .ok (.iload 4, 2) := by decide +kernel
theorem d_La_law_439 : decode b_La_law 439 = .ok (.iconst 1, 1) := by decide +kernel
theorem d_La_law_440 : decode b_La_law 440 = .ok (.iadd, 1) := by decide +kernel
theorem d_La_law_441 : decode b_La_law 441 = .ok (.iaload, 1) := by decide +kernel
theorem d_La_law_442 : decode b_La_law 442 = .ok (.aload_n 0, 1) := by decide +kernel
theorem d_La_law_443 : decode b_La_law 443 = .ok (.iload 4, 2) := by decide +kernel
theorem d_La_law_445 : decode b_La_law 445 = .ok (.iconst 2, 1) := by decide +kernel
theorem d_La_law_446 : decode b_La_law 446 = .ok (.iadd, 1) := by decide +kernel
theorem d_La_law_447 : decode b_La_law 447 = .ok (.iaload, 1) := by decide +kernel
theorem d_La_law_448 : decode b_La_law 448 = .ok (.aload_n 3, 1) := by decide +kernel
theorem d_La_law_449 : decode b_La_law 449 = .ok (.invokestatic 80, 3) := by decide +kernel
theorem d_La_law_452 : decode b_La_law 452 = .ok (.istore 5, 2) := by decide +kernel
theorem d_La_law_454 : decode b_La_law 454 = .ok (.aload_n 2, 1) := by decide +kernel
theorem d_La_law_455 : decode b_La_law 455 = .ok (.aload_n 0, 1) := by decide +kernel
theorem d_La_law_456 : decode b_La_law 456 = .ok (.iload 4, 2) := by decide +kernel
theorem d_La_law_458 : decode b_La_law 458 = .ok (.iconst 1, 1) := by decide +kernel
theorem d_La_law_459 : decode b_La_law 459 = .ok (.iadd, 1) := by decide +kernel
theorem d_La_law_460 : decode b_La_law 460 = .ok (.iaload, 1) := by decide +kernel
theorem d_La_law_461 : decode b_La_law 461 = .ok (.aload_n 0, 1) := by decide +kernel
theorem d_La_law_462 : decode b_La_law 462 = .ok (.iload 4, 2) := by decide +kernel
theorem d_La_law_464 : decode b_La_law 464 = .ok (.iconst 2, 1) := by decide +kernel
theorem d_La_law_465 : decode b_La_law 465 = .ok (.iadd, 1) := by decide +kernel
theorem d_La_law_466 : decode b_La_law 466 = .ok (.iaload, 1) := by decide +kernel
theorem d_La_law_467 : decode b_La_law 467 = .ok (.invokevirtual 83, 3) := by decide +kernel
theorem d_La_law_470 : decode b_La_law 470 = .ok (.istore 6, 2) := by decide +kernel
theorem d_La_law_472 : decode b_La_law 472 = .ok (.goto 440, 3) := by decide +kernel
theorem d_La_law_475 : decode b_La_law 475 = .ok (.aload_n 1, 1) := by decide +kernel
theorem d_La_law_476 : decode b_La_law 476 = .ok (.aload_n 0, 1) := by decide +kernel
theorem d_La_law_477 : decode b_La_law 477 = .ok (.iload 4, 2) := by decide +kernel
theorem d_La_law_479 : decode b_La_law 479 = .ok (.iconst 1, 1) := by decide +kernel
theorem d_La_law_480 : decode b_La_law 480 = .ok (.iadd, 1) := by decide +kernel
theorem d_La_law_481 : decode b_La_law 481 = .ok (.iaload, 1) := by decide +kernel
theorem d_La_law_482 : decode b_La_law 482 = .ok (.aload_n 0, 1) := by decide +kernel
theorem d_La_law_483 : decode b_La_law 483 = .ok (.iload 4, 2) := by decide +kernel
theorem d_La_law_485 : decode b_La_law 485 = .ok (.iconst 2, 1) := by decide +kernel
theorem d_La_law_486 : decode b_La_law 486 = .ok (.iadd, 1) := by decide +kernel
theorem d_La_law_487 : decode b_La_law 487 = .ok (.iaload, 1) := by decide +kernel
theorem d_La_law_488 : decode b_La_law 488 = .ok (.i2l, 1) := by decide +kernel
theorem d_La_law_489 : decode b_La_law 489 = .ok (.bipush 32, 2) := by decide +kernel
theorem d_La_law_491 : decode b_La_law 491 = .ok (.lshl, 1) := by decide +kernel
theorem d_La_law_492 : decode b_La_law 492 = .ok (.aload_n 0, 1) := by decide +kernel
theorem d_La_law_493 : decode b_La_law 493 = .ok (.iload 4, 2) := by decide +kernel
theorem d_La_law_495 : decode b_La_law 495 = .ok (.iconst 3, 1) := by decide +kernel
theorem d_La_law_496 : decode b_La_law 496 = .ok (.iadd, 1) := by decide +kernel
theorem d_La_law_497 : decode b_La_law 497 = .ok (.iaload, 1) := by decide +kernel
theorem d_La_law_498 : decode b_La_law 498 = .ok (.i2l, 1) := by decide +kernel
theorem d_La_law_499 : decode b_La_law 499 = .ok (.ldc2_w 59, 3) := by decide +kernel
theorem d_La_law_502 : decode b_La_law 502 = .ok (.land, 1) := by decide +kernel
theorem d_La_law_503 : decode b_La_law 503 = .ok (.lor, 1) := by decide +kernel
theorem d_La_law_504 : decode b_La_law 504 = .ok (.aload_n 3, 1) := by decide +kernel
theorem d_La_law_505 : decode b_La_law 505 = .ok (.invokestatic 84, 3) := by decide +kernel
theorem d_La_law_508 : decode b_La_law 508 = .ok (.istore 5, 2) := by decide +kernel
theorem d_La_law_510 : decode b_La_law 510 = .ok (.aload_n 2, 1) := by decide +kernel
theorem d_La_law_511 : decode b_La_law 511 = .ok (.aload_n 0, 1) := by decide +kernel
theorem d_La_law_512 : decode b_La_law 512 = .ok (.iload 4, 2) := by decide +kernel
theorem d_La_law_514 : decode b_La_law 514 = .ok (.iconst 1, 1) := by decide +kernel
theorem d_La_law_515 : decode b_La_law 515 = .ok (.iadd, 1) := by decide +kernel
theorem d_La_law_516 : decode b_La_law 516 = .ok (.iaload, 1) := by decide +kernel
theorem d_La_law_517 : decode b_La_law 517 = .ok (.aload_n 0, 1) := by decide +kernel
theorem d_La_law_518 : decode b_La_law 518 = .ok (.iload 4, 2) := by decide +kernel
theorem d_La_law_520 : decode b_La_law 520 = .ok (.iconst 2, 1) := by decide +kernel
theorem d_La_law_521 : decode b_La_law 521 = .ok (.iadd, 1) := by decide +kernel
theorem d_La_law_522 : decode b_La_law 522 = .ok (.iaload, 1) := by decide +kernel
theorem d_La_law_523 : decode b_La_law 523 = .ok (.i2l, 1) := by decide +kernel
theorem d_La_law_524 : decode b_La_law 524 = .ok (.bipush 32, 2) := by decide +kernel
theorem d_La_law_526 : decode b_La_law 526 = .ok (.lshl, 1) := by decide +kernel
theorem d_La_law_527 : decode b_La_law 527 = .ok (.aload_n 0, 1) := by decide +kernel
theorem d_La_law_528 : decode b_La_law 528 = .ok (.iload 4, 2) := by decide +kernel
theorem d_La_law_530 : decode b_La_law 530 = .ok (.iconst 3, 1) := by decide +kernel
theorem d_La_law_531 : decode b_La_law 531 = .ok (.iadd, 1) := by decide +kernel
theorem d_La_law_532 : decode b_La_law 532 = .ok (.iaload, 1) := by decide +kernel
theorem d_La_law_533 : decode b_La_law 533 = .ok (.i2l, 1) := by decide +kernel
theorem d_La_law_534 : decode b_La_law 534 = .ok (.ldc2_w 59, 3) := by decide +kernel
theorem d_La_law_537 : decode b_La_law 537 = .ok (.land, 1) := by decide +kernel
theorem d_La_law_538 : decode b_La_law 538 = .ok (.lor, 1) := by decide +kernel
theorem d_La_law_539 : decode b_La_law 539 = .ok (.invokevirtual 87, 3) := by decide +kernel
theorem d_La_law_542 : decode b_La_law 542 = .ok (.istore 6, 2) := by decide +kernel
theorem d_La_law_544 : decode b_La_law 544 = .ok (.goto 368, 3) := by decide +kernel
theorem d_La_law_547 : decode b_La_law 547 = .ok (.aload_n 1, 1) := by decide +kernel
theorem d_La_law_548 : decode b_La_law 548 = .ok (.invokevirtual 88, 3) := by decide +kernel
theorem d_La_law_551 : decode b_La_law 551 = .ok (.pop, 1) := by decide +kernel
theorem d_La_law_552 : decode b_La_law 552 = .ok (.aload_n 2, 1) := by decide +kernel
theorem d_La_law_553 : decode b_La_law 553 = .ok (.invokevirtual 91, 3) := by decide +kernel
theorem d_La_law_556 : decode b_La_law 556 = .ok (.pop, 1) := by decide +kernel
theorem d_La_law_557 : decode b_La_law 557 = .ok (.goto 355, 3) := by decide +kernel
theorem d_La_law_560 : decode b_La_law 560 = .ok (.aload_n 1, 1) := by decide +kernel
theorem d_La_law_561 : decode b_La_law 561 = .ok (.aload_n 0, 1) := by decide +kernel
theorem d_La_law_562 : decode b_La_law 562 = .ok (.iload 4, 2) := by decide +kernel
theorem d_La_law_564 : decode b_La_law 564 = .ok (.iconst 1, 1) := by decide +kernel
theorem d_La_law_565 : decode b_La_law 565 = .ok (.iadd, 1) := by decide +kernel
theorem d_La_law_566 : decode b_La_law 566 = .ok (.iaload, 1) := by decide +kernel
theorem d_La_law_567 : decode b_La_law 567 = .ok (.aload_n 0, 1) := by decide +kernel
theorem d_La_law_568 : decode b_La_law 568 = .ok (.iload 4, 2) := by decide +kernel
theorem d_La_law_570 : decode b_La_law 570 = .ok (.iconst 2, 1) := by decide +kernel
theorem d_La_law_571 : decode b_La_law 571 = .ok (.iadd, 1) := by decide +kernel
theorem d_La_law_572 : decode b_La_law 572 = .ok (.iaload, 1) := by decide +kernel
theorem d_La_law_573 : decode b_La_law 573 = .ok (.aload_n 3, 1) := by decide +kernel
theorem d_La_law_574 : decode b_La_law 574 = .ok (.invokestatic 92, 3) := by decide +kernel
theorem d_La_law_577 : decode b_La_law 577 = .ok (.istore 5, 2) := by decide +kernel
theorem d_La_law_579 : decode b_La_law 579 = .ok (.aload_n 2, 1) := by decide +kernel
theorem d_La_law_580 : decode b_La_law 580 = .ok (.aload_n 0, 1) := by decide +kernel
theorem d_La_law_581 : decode b_La_law 581 = .ok (.iload 4, 2) := by decide +kernel
theorem d_La_law_583 : decode b_La_law 583 = .ok (.iconst 1, 1) := by decide +kernel
theorem d_La_law_584 : decode b_La_law 584 = .ok (.iadd, 1) := by decide +kernel
theorem d_La_law_585 : decode b_La_law 585 = .ok (.iaload, 1) := by decide +kernel
theorem d_La_law_586 : decode b_La_law 586 = .ok (.aload_n 0, 1) := by decide +kernel
theorem d_La_law_587 : decode b_La_law 587 = .ok (.iload 4, 2) := by decide +kernel
theorem d_La_law_589 : decode b_La_law 589 = .ok (.iconst 2, 1) := by decide +kernel
theorem d_La_law_590 : decode b_La_law 590 = .ok (.iadd, 1) := by decide +kernel
theorem d_La_law_591 : decode b_La_law 591 = .ok (.iaload, 1) := by decide +kernel
theorem d_La_law_592 : decode b_La_law 592 = .ok (.invokevirtual 94, 3) := by decide +kernel
theorem d_La_law_595 : decode b_La_law 595 = .ok (.istore 6, 2) := by decide +kernel
theorem d_La_law_597 : decode b_La_law 597 = .ok (.goto 315, 3) := by decide +kernel
theorem d_La_law_600 : decode b_La_law 600 = .ok (.aload_n 1, 1) := by decide +kernel
theorem d_La_law_601 : decode b_La_law 601 = .ok (.invokevirtual 95, 3) := by decide +kernel
theorem d_La_law_604 : decode b_La_law 604 = .ok (.pop, 1) := by decide +kernel
theorem d_La_law_605 : decode b_La_law 605 = .ok (.aload_n 2, 1) := by decide +kernel
theorem d_La_law_606 : decode b_La_law 606 = .ok (.invokevirtual 98, 3) := by decide +kernel
theorem d_La_law_609 : decode b_La_law 609 = .ok (.pop, 1) := by decide +kernel
theorem d_La_law_610 : decode b_La_law 610 = .ok (.goto 302, 3) := by decide +kernel
theorem d_La_law_613 : decode b_La_law 613 = .ok (.aload_n 1, 1) := by decide +kernel
theorem d_La_law_614 : decode b_La_law 614 = .ok (.aload_n 0, 1) := by decide +kernel
theorem d_La_law_615 : decode b_La_law 615 = .ok (.iload 4, 2) := by decide +kernel
theorem d_La_law_617 : decode b_La_law 617 = .ok (.iconst 1, 1) := by decide +kernel
theorem d_La_law_618 : decode b_La_law 618 = .ok (.iadd, 1) := by decide +kernel
theorem d_La_law_619 : decode b_La_law 619 = .ok (.iaload, 1) := by decide +kernel
theorem d_La_law_620 : decode b_La_law 620 = .ok (.invokevirtual 99, 3) := by decide +kernel
theorem d_La_law_623 : decode b_La_law 623 = .ok (.pop2, 1) := by decide +kernel
theorem d_La_law_624 : decode b_La_law 624 = .ok (.aload_n 2, 1) := by decide +kernel
theorem d_La_law_625 : decode b_La_law 625 = .ok (.aload_n 0, 1) := by decide +kernel
theorem d_La_law_626 : decode b_La_law 626 = .ok (.iload 4, 2) := by decide +kernel
theorem d_La_law_628 : decode b_La_law 628 = .ok (.iconst 1, 1) := by decide +kernel
theorem d_La_law_629 : decode b_La_law 629 = .ok (.iadd, 1) := by decide +kernel
theorem d_La_law_630 : decode b_La_law 630 = .ok (.iaload, 1) := by decide +kernel
theorem d_La_law_631 : decode b_La_law 631 = .ok (.invokevirtual 103, 3) := by decide +kernel
theorem d_La_law_634 : decode b_La_law 634 = .ok (.pop2, 1) := by decide +kernel
theorem d_La_law_635 : decode b_La_law 635 = .ok (.goto 277, 3) := by decide +kernel
theorem d_La_law_638 : decode b_La_law 638 = .ok (.aload_n 1, 1) := by decide +kernel
theorem d_La_law_639 : decode b_La_law 639 = .ok (.aload_n 0, 1) := by decide +kernel
theorem d_La_law_640 : decode b_La_law 640 = .ok (.iload 4, 2) := by decide +kernel
theorem d_La_law_642 : decode b_La_law 642 = .ok (.iconst 1, 1) := by decide +kernel
theorem d_La_law_643 : decode b_La_law 643 = .ok (.iadd, 1) := by decide +kernel
theorem d_La_law_644 : decode b_La_law 644 = .ok (.iaload, 1) := by decide +kernel
theorem d_La_law_645 : decode b_La_law 645 = .ok (.aload_n 0, 1) := by decide +kernel
theorem d_La_law_646 : decode b_La_law 646 = .ok (.iload 4, 2) := by decide +kernel
theorem d_La_law_648 : decode b_La_law 648 = .ok (.iconst 2, 1) := by decide +kernel
theorem d_La_law_649 : decode b_La_law 649 = .ok (.iadd, 1) := by decide +kernel
theorem d_La_law_650 : decode b_La_law 650 = .ok (.iaload, 1) := by decide +kernel
theorem d_La_law_651 : decode b_La_law 651 = .ok (.aload_n 3, 1) := by decide +kernel
theorem d_La_law_652 : decode b_La_law 652 = .ok (.invokestatic 104, 3) := by decide +kernel
theorem d_La_law_655 : decode b_La_law 655 = .ok (.istore 5, 2) := by decide +kernel
theorem d_La_law_657 : decode b_La_law 657 = .ok (.aload_n 2, 1) := by decide +kernel
theorem d_La_law_658 : decode b_La_law 658 = .ok (.aload_n 0, 1) := by decide +kernel
theorem d_La_law_659 : decode b_La_law 659 = .ok (.iload 4, 2) := by decide +kernel
theorem d_La_law_661 : decode b_La_law 661 = .ok (.iconst 1, 1) := by decide +kernel
theorem d_La_law_662 : decode b_La_law 662 = .ok (.iadd, 1) := by decide +kernel
theorem d_La_law_663 : decode b_La_law 663 = .ok (.iaload, 1) := by decide +kernel
theorem d_La_law_664 : decode b_La_law 664 = .ok (.aload_n 0, 1) := by decide +kernel
theorem d_La_law_665 : decode b_La_law 665 = .ok (.iload 4, 2) := by decide +kernel
theorem d_La_law_667 : decode b_La_law 667 = .ok (.iconst 2, 1) := by decide +kernel
theorem d_La_law_668 : decode b_La_law 668 = .ok (.iadd, 1) := by decide +kernel
theorem d_La_law_669 : decode b_La_law 669 = .ok (.iaload, 1) := by decide +kernel
theorem d_La_law_670 : decode b_La_law 670 = .ok (.invokevirtual 106, 3) := by decide +kernel
theorem d_La_law_673 : decode b_La_law 673 = .ok (.istore 6, 2) := by decide +kernel
theorem d_La_law_675 : decode b_La_law 675 = .ok (.goto 237, 3) := by decide +kernel
theorem d_La_law_678 : decode b_La_law 678 = .ok (.aload_n 1, 1) := by decide +kernel
theorem d_La_law_679 : decode b_La_law 679 = .ok (.aload_n 0, 1) := by decide +kernel
theorem d_La_law_680 : decode b_La_law 680 = .ok (.iload 4, 2) := by decide +kernel
theorem d_La_law_682 : decode b_La_law 682 = .ok (.iconst 1, 1) := by decide +kernel
theorem d_La_law_683 : decode b_La_law 683 = .ok (.iadd, 1) := by decide +kernel
theorem d_La_law_684 : decode b_La_law 684 = .ok (.iaload, 1) := by decide +kernel
theorem d_La_law_685 : decode b_La_law 685 = .ok (.invokestatic 107, 3) := by decide +kernel
theorem d_La_law_688 : decode b_La_law 688 = .ok (.istore 5, 2) := by decide +kernel
theorem d_La_law_690 : decode b_La_law 690 = .ok (.aload_n 2, 1) := by decide +kernel
theorem d_La_law_691 : decode b_La_law 691 = .ok (.aload_n 0, 1) := by decide +kernel
theorem d_La_law_692 : decode b_La_law 692 = .ok (.iload 4, 2) := by decide +kernel
theorem d_La_law_694 : decode b_La_law 694 = .ok (.iconst 1, 1) := by decide +kernel
theorem d_La_law_695 : decode b_La_law 695 = .ok (.iadd, 1) := by decide +kernel
theorem d_La_law_696 : decode b_La_law 696 = .ok (.iaload, 1) := by decide +kernel
theorem d_La_law_697 : decode b_La_law 697 = .ok (.invokevirtual 110, 3) := by decide +kernel
theorem d_La_law_700 : decode b_La_law 700 = .ok (.goto 212, 3) := by decide +kernel
theorem d_La_law_703 : decode b_La_law 703 = .ok (.aload_n 1, 1) := by decide +kernel
theorem d_La_law_704 : decode b_La_law 704 = .ok (.aload_n 0, 1) := by decide +kernel
theorem d_La_law_705 : decode b_La_law 705 = .ok (.iload 4, 2) := by decide +kernel
theorem d_La_law_707 : decode b_La_law 707 = .ok (.iconst 1, 1) := by decide +kernel
theorem d_La_law_708 : decode b_La_law 708 = .ok (.iadd, 1) := by decide +kernel
theorem d_La_law_709 : decode b_La_law 709 = .ok (.iaload, 1) := by decide +kernel
theorem d_La_law_710 : decode b_La_law 710 = .ok (.invokestatic 111, 3) := by decide +kernel
theorem d_La_law_713 : decode b_La_law 713 = .ok (.istore 5, 2) := by decide +kernel
theorem d_La_law_715 : decode b_La_law 715 = .ok (.aload_n 2, 1) := by decide +kernel
theorem d_La_law_716 : decode b_La_law 716 = .ok (.aload_n 0, 1) := by decide +kernel
theorem d_La_law_717 : decode b_La_law 717 = .ok (.iload 4, 2) := by decide +kernel
theorem d_La_law_719 : decode b_La_law 719 = .ok (.iconst 1, 1) := by decide +kernel
theorem d_La_law_720 : decode b_La_law 720 = .ok (.iadd, 1) := by decide +kernel
theorem d_La_law_721 : decode b_La_law 721 = .ok (.iaload, 1) := by decide +kernel

theorem d_La_told_21 : decode b_La_told 21 = .ok (.ireturn, 1) := by decide +kernel
theorem d_La_given_0 : decode b_La_given 0 = .ok (.aload_n 3, 1) := by decide +kernel
theorem d_La_given_1 : decode b_La_given 1 = .ok (.iconst 0, 1) := by decide +kernel
theorem d_La_given_2 : decode b_La_given 2 = .ok (.aload_n 0, 1) := by decide +kernel
theorem d_La_given_3 : decode b_La_given 3 = .ok (.iload_n 1, 1) := by decide +kernel
theorem d_La_given_4 : decode b_La_given 4 = .ok (.iload_n 2, 1) := by decide +kernel
theorem d_La_given_5 : decode b_La_given 5 = .ok (.invokevirtual 52, 3) := by decide +kernel
theorem d_La_given_8 : decode b_La_given 8 = .ok (.lastore, 1) := by decide +kernel
theorem d_La_given_9 : decode b_La_given 9 = .ok (.goto 11, 3) := by decide +kernel
theorem d_La_given_12 : decode b_La_given 12 = .ok (.astore 4, 2) := by decide +kernel
theorem d_La_given_14 : decode b_La_given 14 = .ok (.iconst 1, 1) := by decide +kernel
theorem d_La_given_15 : decode b_La_given 15 = .ok (.ireturn, 1) := by decide +kernel
theorem d_La_given_16 : decode b_La_given 16 = .ok (.astore 4, 2) := by decide +kernel
theorem d_La_given_18 : decode b_La_given 18 = .ok (.iconst 2, 1) := by decide +kernel
theorem d_La_given_19 : decode b_La_given 19 = .ok (.ireturn, 1) := by decide +kernel
theorem d_La_given_20 : decode b_La_given 20 = .ok (.iconst 0, 1) := by decide +kernel
theorem d_La_given_21 : decode b_La_given 21 = .ok (.ireturn, 1) := by decide +kernel
theorem d_La_law_0 : decode b_La_law 0 = .ok (.new 8, 3) := by decide +kernel
theorem d_La_law_3 : decode b_La_law 3 = .ok (.dup, 1) := by decide +kernel
theorem d_La_law_4 : decode b_La_law 4 = .ok (.invokespecial 55, 3) := by decide +kernel
theorem d_La_law_7 : decode b_La_law 7 = .ok (.astore_n 1, 1) := by decide +kernel
theorem d_La_law_8 : decode b_La_law 8 = .ok (.new 56, 3) := by decide +kernel
theorem d_La_law_11 : decode b_La_law 11 = .ok (.dup, 1) := by decide +kernel
theorem d_La_law_12 : decode b_La_law 12 = .ok (.invokespecial 58, 3) := by decide +kernel
theorem d_La_law_15 : decode b_La_law 15 = .ok (.astore_n 2, 1) := by decide +kernel
theorem d_La_law_16 : decode b_La_law 16 = .ok (.iconst 1, 1) := by decide +kernel
theorem d_La_law_17 : decode b_La_law 17 = .ok (.newarray .long, 2) := by decide +kernel
theorem d_La_law_19 : decode b_La_law 19 = .ok (.astore_n 3, 1) := by decide +kernel
theorem d_La_law_20 : decode b_La_law 20 = .ok (.iconst 0, 1) := by decide +kernel
theorem d_La_law_21 : decode b_La_law 21 = .ok (.istore 4, 2) := by decide +kernel
theorem d_La_law_23 : decode b_La_law 23 = .ok (.iload 4, 2) := by decide +kernel
theorem d_La_law_25 : decode b_La_law 25 = .ok (.aload_n 0, 1) := by decide +kernel
theorem d_La_law_26 : decode b_La_law 26 = .ok (.arraylength, 1) := by decide +kernel
theorem d_La_law_27 : decode b_La_law 27 = .ok (.bipush 9, 2) := by decide +kernel
theorem d_La_law_29 : decode b_La_law 29 = .ok (.isub, 1) := by decide +kernel
theorem d_La_law_30 : decode b_La_law 30 = .ok (.if_icmp .gt 881, 3) := by decide +kernel
theorem d_La_law_33 : decode b_La_law 33 = .ok (.aload_n 0, 1) := by decide +kernel
theorem d_La_law_34 : decode b_La_law 34 = .ok (.iload 4, 2) := by decide +kernel
theorem d_La_law_36 : decode b_La_law 36 = .ok (.iaload, 1) := by decide +kernel
theorem d_La_law_37 : decode b_La_law 37 = .ok (.bipush 31, 2) := by decide +kernel
theorem d_La_law_39 : decode b_La_law 39 = .ok (.iand, 1) := by decide +kernel
theorem d_La_law_40 : decode b_La_law 40 = .ok (.tableswitch 865 0 18 #[92, 266, 291, 360, 400, 472, 485, 553, 566, 591, 631, 656, 681, 709, 722, 735, 760, 800, 840], 92) := by decide +kernel
theorem d_La_law_132 : decode b_La_law 132 = .ok (.aload_n 1, 1) := by decide +kernel
theorem d_La_law_133 : decode b_La_law 133 = .ok (.aload_n 0, 1) := by decide +kernel
theorem d_La_law_134 : decode b_La_law 134 = .ok (.iload 4, 2) := by decide +kernel
theorem d_La_law_136 : decode b_La_law 136 = .ok (.iconst 1, 1) := by decide +kernel
theorem d_La_law_137 : decode b_La_law 137 = .ok (.iadd, 1) := by decide +kernel
theorem d_La_law_138 : decode b_La_law 138 = .ok (.iaload, 1) := by decide +kernel
theorem d_La_law_139 : decode b_La_law 139 = .ok (.aload_n 0, 1) := by decide +kernel
theorem d_La_law_140 : decode b_La_law 140 = .ok (.iload 4, 2) := by decide +kernel
theorem d_La_law_142 : decode b_La_law 142 = .ok (.iconst 2, 1) := by decide +kernel
theorem d_La_law_143 : decode b_La_law 143 = .ok (.iadd, 1) := by decide +kernel
theorem d_La_law_144 : decode b_La_law 144 = .ok (.iaload, 1) := by decide +kernel
theorem d_La_law_145 : decode b_La_law 145 = .ok (.i2l, 1) := by decide +kernel
theorem d_La_law_146 : decode b_La_law 146 = .ok (.bipush 32, 2) := by decide +kernel
theorem d_La_law_148 : decode b_La_law 148 = .ok (.lshl, 1) := by decide +kernel
theorem d_La_law_149 : decode b_La_law 149 = .ok (.aload_n 0, 1) := by decide +kernel
theorem d_La_law_150 : decode b_La_law 150 = .ok (.iload 4, 2) := by decide +kernel
theorem d_La_law_152 : decode b_La_law 152 = .ok (.iconst 3, 1) := by decide +kernel
theorem d_La_law_153 : decode b_La_law 153 = .ok (.iadd, 1) := by decide +kernel
theorem d_La_law_154 : decode b_La_law 154 = .ok (.iaload, 1) := by decide +kernel
theorem d_La_law_155 : decode b_La_law 155 = .ok (.i2l, 1) := by decide +kernel
theorem d_La_law_156 : decode b_La_law 156 = .ok (.ldc2_w 59, 3) := by decide +kernel
theorem d_La_law_159 : decode b_La_law 159 = .ok (.land, 1) := by decide +kernel
theorem d_La_law_160 : decode b_La_law 160 = .ok (.lor, 1) := by decide +kernel
theorem d_La_law_161 : decode b_La_law 161 = .ok (.aload_n 0, 1) := by decide +kernel
theorem d_La_law_162 : decode b_La_law 162 = .ok (.iload 4, 2) := by decide +kernel
theorem d_La_law_164 : decode b_La_law 164 = .ok (.iconst 4, 1) := by decide +kernel
theorem d_La_law_165 : decode b_La_law 165 = .ok (.iadd, 1) := by decide +kernel
theorem d_La_law_166 : decode b_La_law 166 = .ok (.iaload, 1) := by decide +kernel
theorem d_La_law_167 : decode b_La_law 167 = .ok (.i2l, 1) := by decide +kernel
theorem d_La_law_168 : decode b_La_law 168 = .ok (.bipush 32, 2) := by decide +kernel
theorem d_La_law_170 : decode b_La_law 170 = .ok (.lshl, 1) := by decide +kernel
theorem d_La_law_171 : decode b_La_law 171 = .ok (.aload_n 0, 1) := by decide +kernel
theorem d_La_law_172 : decode b_La_law 172 = .ok (.iload 4, 2) := by decide +kernel
theorem d_La_law_174 : decode b_La_law 174 = .ok (.iconst 5, 1) := by decide +kernel
theorem d_La_law_175 : decode b_La_law 175 = .ok (.iadd, 1) := by decide +kernel
theorem d_La_law_176 : decode b_La_law 176 = .ok (.iaload, 1) := by decide +kernel
theorem d_La_law_177 : decode b_La_law 177 = .ok (.i2l, 1) := by decide +kernel
theorem d_La_law_178 : decode b_La_law 178 = .ok (.ldc2_w 59, 3) := by decide +kernel
theorem d_La_law_181 : decode b_La_law 181 = .ok (.land, 1) := by decide +kernel
theorem d_La_law_182 : decode b_La_law 182 = .ok (.lor, 1) := by decide +kernel
theorem d_La_law_183 : decode b_La_law 183 = .ok (.aload_n 0, 1) := by decide +kernel
theorem d_La_law_184 : decode b_La_law 184 = .ok (.iload 4, 2) := by decide +kernel
theorem d_La_law_186 : decode b_La_law 186 = .ok (.bipush 6, 2) := by decide +kernel
theorem d_La_law_188 : decode b_La_law 188 = .ok (.iadd, 1) := by decide +kernel
theorem d_La_law_189 : decode b_La_law 189 = .ok (.iaload, 1) := by decide +kernel
theorem d_La_law_190 : decode b_La_law 190 = .ok (.aload_n 0, 1) := by decide +kernel
theorem d_La_law_191 : decode b_La_law 191 = .ok (.iload 4, 2) := by decide +kernel
theorem d_La_law_193 : decode b_La_law 193 = .ok (.bipush 7, 2) := by decide +kernel
theorem d_La_law_195 : decode b_La_law 195 = .ok (.iadd, 1) := by decide +kernel
theorem d_La_law_196 : decode b_La_law 196 = .ok (.iaload, 1) := by decide +kernel
theorem d_La_law_197 : decode b_La_law 197 = .ok (.aload_n 0, 1) := by decide +kernel
theorem d_La_law_198 : decode b_La_law 198 = .ok (.iload 4, 2) := by decide +kernel
theorem d_La_law_200 : decode b_La_law 200 = .ok (.bipush 8, 2) := by decide +kernel
theorem d_La_law_202 : decode b_La_law 202 = .ok (.iadd, 1) := by decide +kernel
theorem d_La_law_203 : decode b_La_law 203 = .ok (.iaload, 1) := by decide +kernel
theorem d_La_law_204 : decode b_La_law 204 = .ok (.ifCond .eq 7, 3) := by decide +kernel
theorem d_La_law_207 : decode b_La_law 207 = .ok (.iconst 1, 1) := by decide +kernel
theorem d_La_law_208 : decode b_La_law 208 = .ok (.goto 4, 3) := by decide +kernel
theorem d_La_law_211 : decode b_La_law 211 = .ok (.iconst 0, 1) := by decide +kernel
theorem d_La_law_212 : decode b_La_law 212 = .ok (.aload_n 3, 1) := by decide +kernel
theorem d_La_law_213 : decode b_La_law 213 = .ok (.invokestatic 61, 3) := by decide +kernel
theorem d_La_law_216 : decode b_La_law 216 = .ok (.istore 5, 2) := by decide +kernel
theorem d_La_law_218 : decode b_La_law 218 = .ok (.aload_n 2, 1) := by decide +kernel
theorem d_La_law_219 : decode b_La_law 219 = .ok (.aload_n 0, 1) := by decide +kernel
theorem d_La_law_220 : decode b_La_law 220 = .ok (.iload 4, 2) := by decide +kernel
theorem d_La_law_222 : decode b_La_law 222 = .ok (.iconst 1, 1) := by decide +kernel
theorem d_La_law_223 : decode b_La_law 223 = .ok (.iadd, 1) := by decide +kernel
theorem d_La_law_224 : decode b_La_law 224 = .ok (.iaload, 1) := by decide +kernel
theorem d_La_law_225 : decode b_La_law 225 = .ok (.aload_n 0, 1) := by decide +kernel
theorem d_La_law_226 : decode b_La_law 226 = .ok (.iload 4, 2) := by decide +kernel
theorem d_La_law_228 : decode b_La_law 228 = .ok (.iconst 2, 1) := by decide +kernel
theorem d_La_law_229 : decode b_La_law 229 = .ok (.iadd, 1) := by decide +kernel
theorem d_La_law_230 : decode b_La_law 230 = .ok (.iaload, 1) := by decide +kernel
theorem d_La_law_231 : decode b_La_law 231 = .ok (.i2l, 1) := by decide +kernel
theorem d_La_law_232 : decode b_La_law 232 = .ok (.bipush 32, 2) := by decide +kernel
theorem d_La_law_234 : decode b_La_law 234 = .ok (.lshl, 1) := by decide +kernel
theorem d_La_law_235 : decode b_La_law 235 = .ok (.aload_n 0, 1) := by decide +kernel
theorem d_La_law_236 : decode b_La_law 236 = .ok (.iload 4, 2) := by decide +kernel
theorem d_La_law_238 : decode b_La_law 238 = .ok (.iconst 3, 1) := by decide +kernel
theorem d_La_law_239 : decode b_La_law 239 = .ok (.iadd, 1) := by decide +kernel
theorem d_La_law_240 : decode b_La_law 240 = .ok (.iaload, 1) := by decide +kernel
theorem d_La_law_241 : decode b_La_law 241 = .ok (.i2l, 1) := by decide +kernel
theorem d_La_law_242 : decode b_La_law 242 = .ok (.ldc2_w 59, 3) := by decide +kernel
theorem d_La_law_245 : decode b_La_law 245 = .ok (.land, 1) := by decide +kernel
theorem d_La_law_246 : decode b_La_law 246 = .ok (.lor, 1) := by decide +kernel
theorem d_La_law_247 : decode b_La_law 247 = .ok (.aload_n 0, 1) := by decide +kernel
theorem d_La_law_248 : decode b_La_law 248 = .ok (.iload 4, 2) := by decide +kernel
theorem d_La_law_250 : decode b_La_law 250 = .ok (.iconst 4, 1) := by decide +kernel
theorem d_La_law_251 : decode b_La_law 251 = .ok (.iadd, 1) := by decide +kernel
theorem d_La_law_252 : decode b_La_law 252 = .ok (.iaload, 1) := by decide +kernel
theorem d_La_law_253 : decode b_La_law 253 = .ok (.i2l, 1) := by decide +kernel
theorem d_La_law_254 : decode b_La_law 254 = .ok (.bipush 32, 2) := by decide +kernel
theorem d_La_law_256 : decode b_La_law 256 = .ok (.lshl, 1) := by decide +kernel
theorem d_La_law_257 : decode b_La_law 257 = .ok (.aload_n 0, 1) := by decide +kernel
theorem d_La_law_258 : decode b_La_law 258 = .ok (.iload 4, 2) := by decide +kernel
theorem d_La_law_260 : decode b_La_law 260 = .ok (.iconst 5, 1) := by decide +kernel
theorem d_La_law_261 : decode b_La_law 261 = .ok (.iadd, 1) := by decide +kernel
theorem d_La_law_262 : decode b_La_law 262 = .ok (.iaload, 1) := by decide +kernel
theorem d_La_law_263 : decode b_La_law 263 = .ok (.i2l, 1) := by decide +kernel
theorem d_La_law_264 : decode b_La_law 264 = .ok (.ldc2_w 59, 3) := by decide +kernel
theorem d_La_law_267 : decode b_La_law 267 = .ok (.land, 1) := by decide +kernel
theorem d_La_law_268 : decode b_La_law 268 = .ok (.lor, 1) := by decide +kernel
theorem d_La_law_269 : decode b_La_law 269 = .ok (.aload_n 0, 1) := by decide +kernel
theorem d_La_law_270 : decode b_La_law 270 = .ok (.iload 4, 2) := by decide +kernel
theorem d_La_law_272 : decode b_La_law 272 = .ok (.bipush 6, 2) := by decide +kernel
theorem d_La_law_274 : decode b_La_law 274 = .ok (.iadd, 1) := by decide +kernel
theorem d_La_law_275 : decode b_La_law 275 = .ok (.iaload, 1) := by decide +kernel
theorem d_La_law_276 : decode b_La_law 276 = .ok (.aload_n 0, 1) := by decide +kernel
theorem d_La_law_277 : decode b_La_law 277 = .ok (.iload 4, 2) := by decide +kernel
theorem d_La_law_279 : decode b_La_law 279 = .ok (.bipush 7, 2) := by decide +kernel
theorem d_La_law_281 : decode b_La_law 281 = .ok (.iadd, 1) := by decide +kernel
theorem d_La_law_282 : decode b_La_law 282 = .ok (.iaload, 1) := by decide +kernel
theorem d_La_law_283 : decode b_La_law 283 = .ok (.aload_n 0, 1) := by decide +kernel
theorem d_La_law_284 : decode b_La_law 284 = .ok (.iload 4, 2) := by decide +kernel
theorem d_La_law_286 : decode b_La_law 286 = .ok (.bipush 8, 2) := by decide +kernel
theorem d_La_law_288 : decode b_La_law 288 = .ok (.iadd, 1) := by decide +kernel
theorem d_La_law_289 : decode b_La_law 289 = .ok (.iaload, 1) := by decide +kernel
theorem d_La_law_290 : decode b_La_law 290 = .ok (.ifCond .eq 7, 3) := by decide +kernel
theorem d_La_law_293 : decode b_La_law 293 = .ok (.iconst 1, 1) := by decide +kernel
theorem d_La_law_294 : decode b_La_law 294 = .ok (.goto 4, 3) := by decide +kernel
theorem d_La_law_297 : decode b_La_law 297 = .ok (.iconst 0, 1) := by decide +kernel
theorem d_La_law_298 : decode b_La_law 298 = .ok (.invokevirtual 66, 3) := by decide +kernel
theorem d_La_law_301 : decode b_La_law 301 = .ok (.istore 6, 2) := by decide +kernel
theorem d_La_law_303 : decode b_La_law 303 = .ok (.goto 602, 3) := by decide +kernel
theorem d_La_law_306 : decode b_La_law 306 = .ok (.aload_n 1, 1) := by decide +kernel
theorem d_La_law_307 : decode b_La_law 307 = .ok (.aload_n 0, 1) := by decide +kernel
theorem d_La_law_308 : decode b_La_law 308 = .ok (.iload 4, 2) := by decide +kernel
theorem d_La_law_310 : decode b_La_law 310 = .ok (.iconst 1, 1) := by decide +kernel
theorem d_La_law_311 : decode b_La_law 311 = .ok (.iadd, 1) := by decide +kernel
theorem d_La_law_312 : decode b_La_law 312 = .ok (.iaload, 1) := by decide +kernel
theorem d_La_law_313 : decode b_La_law 313 = .ok (.invokevirtual 67, 3) := by decide +kernel
theorem d_La_law_316 : decode b_La_law 316 = .ok (.pop, 1) := by decide +kernel
theorem d_La_law_317 : decode b_La_law 317 = .ok (.aload_n 2, 1) := by decide +kernel
theorem d_La_law_318 : decode b_La_law 318 = .ok (.aload_n 0, 1) := by decide +kernel
theorem d_La_law_319 : decode b_La_law 319 = .ok (.iload 4, 2) := by decide +kernel
theorem d_La_law_321 : decode b_La_law 321 = .ok (.iconst 1, 1) := by decide +kernel
theorem d_La_law_322 : decode b_La_law 322 = .ok (.iadd, 1) := by decide +kernel
theorem d_La_law_323 : decode b_La_law 323 = .ok (.iaload, 1) := by decide +kernel
theorem d_La_law_324 : decode b_La_law 324 = .ok (.invokevirtual 71, 3) := by decide +kernel
theorem d_La_law_327 : decode b_La_law 327 = .ok (.pop, 1) := by decide +kernel
theorem d_La_law_328 : decode b_La_law 328 = .ok (.goto 577, 3) := by decide +kernel
theorem d_La_law_331 : decode b_La_law 331 = .ok (.aload_n 1, 1) := by decide +kernel
theorem d_La_law_332 : decode b_La_law 332 = .ok (.aload_n 0, 1) := by decide +kernel
theorem d_La_law_333 : decode b_La_law 333 = .ok (.iload 4, 2) := by decide +kernel
theorem d_La_law_335 : decode b_La_law 335 = .ok (.iconst 1, 1) := by decide +kernel
theorem d_La_law_336 : decode b_La_law 336 = .ok (.iadd, 1) := by decide +kernel
theorem d_La_law_337 : decode b_La_law 337 = .ok (.iaload, 1) := by decide +kernel
theorem d_La_law_338 : decode b_La_law 338 = .ok (.aload_n 0, 1) := by decide +kernel
theorem d_La_law_339 : decode b_La_law 339 = .ok (.iload 4, 2) := by decide +kernel
theorem d_La_law_341 : decode b_La_law 341 = .ok (.iconst 2, 1) := by decide +kernel
theorem d_La_law_342 : decode b_La_law 342 = .ok (.iadd, 1) := by decide +kernel
theorem d_La_law_343 : decode b_La_law 343 = .ok (.iaload, 1) := by decide +kernel
theorem d_La_law_344 : decode b_La_law 344 = .ok (.i2l, 1) := by decide +kernel
theorem d_La_law_345 : decode b_La_law 345 = .ok (.bipush 32, 2) := by decide +kernel
theorem d_La_law_347 : decode b_La_law 347 = .ok (.lshl, 1) := by decide +kernel
theorem d_La_law_348 : decode b_La_law 348 = .ok (.aload_n 0, 1) := by decide +kernel
theorem d_La_law_349 : decode b_La_law 349 = .ok (.iload 4, 2) := by decide +kernel
theorem d_La_law_351 : decode b_La_law 351 = .ok (.iconst 3, 1) := by decide +kernel
theorem d_La_law_352 : decode b_La_law 352 = .ok (.iadd, 1) := by decide +kernel
theorem d_La_law_353 : decode b_La_law 353 = .ok (.iaload, 1) := by decide +kernel
theorem d_La_law_354 : decode b_La_law 354 = .ok (.i2l, 1) := by decide +kernel
theorem d_La_law_355 : decode b_La_law 355 = .ok (.ldc2_w 59, 3) := by decide +kernel
theorem d_La_law_358 : decode b_La_law 358 = .ok (.land, 1) := by decide +kernel
theorem d_La_law_359 : decode b_La_law 359 = .ok (.lor, 1) := by decide +kernel
theorem d_La_law_360 : decode b_La_law 360 = .ok (.invokestatic 72, 3) := by decide +kernel
theorem d_La_law_363 : decode b_La_law 363 = .ok (.istore 5, 2) := by decide +kernel
theorem d_La_law_365 : decode b_La_law 365 = .ok (.aload_n 2, 1) := by decide +kernel
theorem d_La_law_366 : decode b_La_law 366 = .ok (.aload_n 0, 1) := by decide +kernel
theorem d_La_law_367 : decode b_La_law 367 = .ok (.iload 4, 2) := by decide +kernel
theorem d_La_law_369 : decode b_La_law 369 = .ok (.iconst 1, 1) := by decide +kernel
theorem d_La_law_370 : decode b_La_law 370 = .ok (.iadd, 1) := by decide +kernel
theorem d_La_law_371 : decode b_La_law 371 = .ok (.iaload, 1) := by decide +kernel
theorem d_La_law_372 : decode b_La_law 372 = .ok (.aload_n 0, 1) := by decide +kernel
theorem d_La_law_373 : decode b_La_law 373 = .ok (.iload 4, 2) := by decide +kernel
theorem d_La_law_375 : decode b_La_law 375 = .ok (.iconst 2, 1) := by decide +kernel
theorem d_La_law_376 : decode b_La_law 376 = .ok (.iadd, 1) := by decide +kernel
theorem d_La_law_377 : decode b_La_law 377 = .ok (.iaload, 1) := by decide +kernel
theorem d_La_law_378 : decode b_La_law 378 = .ok (.i2l, 1) := by decide +kernel
theorem d_La_law_379 : decode b_La_law 379 = .ok (.bipush 32, 2) := by decide +kernel
theorem d_La_law_381 : decode b_La_law 381 = .ok (.lshl, 1) := by decide +kernel
theorem d_La_law_382 : decode b_La_law 382 = .ok (.aload_n 0, 1) := by decide +kernel
theorem d_La_law_383 : decode b_La_law 383 = .ok (.iload 4, 2) := by decide +kernel
theorem d_La_law_385 : decode b_La_law 385 = .ok (.iconst 3, 1) := by decide +kernel
theorem d_La_law_386 : decode b_La_law 386 = .ok (.iadd, 1) := by decide +kernel
theorem d_La_law_387 : decode b_La_law 387 = .ok (.iaload, 1) := by decide +kernel
theorem d_La_law_388 : decode b_La_law 388 = .ok (.i2l, 1) := by decide +kernel
theorem d_La_law_389 : decode b_La_law 389 = .ok (.ldc2_w 59, 3) := by decide +kernel
theorem d_La_law_392 : decode b_La_law 392 = .ok (.land, 1) := by decide +kernel
theorem d_La_law_393 : decode b_La_law 393 = .ok (.lor, 1) := by decide +kernel
theorem d_La_law_394 : decode b_La_law 394 = .ok (.invokevirtual 75, 3) := by decide +kernel
theorem d_La_law_397 : decode b_La_law 397 = .ok (.goto 508, 3) := by decide +kernel
theorem d_La_law_400 : decode b_La_law 400 = .ok (.aload_n 1, 1) := by decide +kernel
theorem d_La_law_401 : decode b_La_law 401 = .ok (.aload_n 0, 1) := by decide +kernel
theorem d_La_law_402 : decode b_La_law 402 = .ok (.iload 4, 2) := by decide +kernel
theorem d_La_law_404 : decode b_La_law 404 = .ok (.iconst 1, 1) := by decide +kernel
theorem d_La_law_405 : decode b_La_law 405 = .ok (.iadd, 1) := by decide +kernel
theorem d_La_law_406 : decode b_La_law 406 = .ok (.iaload, 1) := by decide +kernel
theorem d_La_law_407 : decode b_La_law 407 = .ok (.aload_n 0, 1) := by decide +kernel
theorem d_La_law_408 : decode b_La_law 408 = .ok (.iload 4, 2) := by decide +kernel
theorem d_La_law_410 : decode b_La_law 410 = .ok (.iconst 2, 1) := by decide +kernel
theorem d_La_law_411 : decode b_La_law 411 = .ok (.iadd, 1) := by decide +kernel
theorem d_La_law_412 : decode b_La_law 412 = .ok (.iaload, 1) := by decide +kernel
theorem d_La_law_413 : decode b_La_law 413 = .ok (.aload_n 3, 1) := by decide +kernel
theorem d_La_law_414 : decode b_La_law 414 = .ok (.invokestatic 76, 3) := by decide +kernel
theorem d_La_law_417 : decode b_La_law 417 = .ok (.istore 5, 2) := by decide +kernel
theorem d_La_law_419 : decode b_La_law 419 = .ok (.aload_n 2, 1) := by decide +kernel
theorem d_La_law_420 : decode b_La_law 420 = .ok (.aload_n 0, 1) := by decide +kernel
theorem d_La_law_421 : decode b_La_law 421 = .ok (.iload 4, 2) := by decide +kernel
theorem d_La_law_423 : decode b_La_law 423 = .ok (.iconst 1, 1) := by decide +kernel
theorem d_La_law_424 : decode b_La_law 424 = .ok (.iadd, 1) := by decide +kernel
theorem d_La_law_425 : decode b_La_law 425 = .ok (.iaload, 1) := by decide +kernel
theorem d_La_law_426 : decode b_La_law 426 = .ok (.aload_n 0, 1) := by decide +kernel
theorem d_La_law_427 : decode b_La_law 427 = .ok (.iload 4, 2) := by decide +kernel
theorem d_La_law_429 : decode b_La_law 429 = .ok (.iconst 2, 1) := by decide +kernel
theorem d_La_law_430 : decode b_La_law 430 = .ok (.iadd, 1) := by decide +kernel
theorem d_La_law_431 : decode b_La_law 431 = .ok (.iaload, 1) := by decide +kernel
theorem d_La_law_432 : decode b_La_law 432 = .ok (.invokevirtual 79, 3) := by decide +kernel
theorem d_La_law_435 : decode b_La_law 435 = .ok (.istore 6, 2) := by decide +kernel
theorem d_La_law_437 : decode b_La_law 437 = .ok (.goto 468, 3) := by decide +kernel
theorem d_La_law_440 : decode b_La_law 440 = .ok (.aload_n 1, 1) := by decide +kernel
theorem d_La_law_441 : decode b_La_law 441 = .ok (.aload_n 0, 1) := by decide +kernel
theorem d_La_law_442 : decode b_La_law 442 = .ok (.iload 4, 2) := by decide +kernel
theorem d_La_law_444 : decode b_La_law 444 = .ok (.iconst 1, 1) := by decide +kernel
theorem d_La_law_445 : decode b_La_law 445 = .ok (.iadd, 1) := by decide +kernel
theorem d_La_law_446 : decode b_La_law 446 = .ok (.iaload, 1) := by decide +kernel
theorem d_La_law_447 : decode b_La_law 447 = .ok (.aload_n 0, 1) := by decide +kernel
theorem d_La_law_448 : decode b_La_law 448 = .ok (.iload 4, 2) := by decide +kernel
theorem d_La_law_450 : decode b_La_law 450 = .ok (.iconst 2, 1) := by decide +kernel
theorem d_La_law_451 : decode b_La_law 451 = .ok (.iadd, 1) := by decide +kernel
theorem d_La_law_452 : decode b_La_law 452 = .ok (.iaload, 1) := by decide +kernel
theorem d_La_law_453 : decode b_La_law 453 = .ok (.i2l, 1) := by decide +kernel
theorem d_La_law_454 : decode b_La_law 454 = .ok (.bipush 32, 2) := by decide +kernel
theorem d_La_law_456 : decode b_La_law 456 = .ok (.lshl, 1) := by decide +kernel
theorem d_La_law_457 : decode b_La_law 457 = .ok (.aload_n 0, 1) := by decide +kernel
theorem d_La_law_458 : decode b_La_law 458 = .ok (.iload 4, 2) := by decide +kernel
theorem d_La_law_460 : decode b_La_law 460 = .ok (.iconst 3, 1) := by decide +kernel
theorem d_La_law_461 : decode b_La_law 461 = .ok (.iadd, 1) := by decide +kernel
theorem d_La_law_462 : decode b_La_law 462 = .ok (.iaload, 1) := by decide +kernel
theorem d_La_law_463 : decode b_La_law 463 = .ok (.i2l, 1) := by decide +kernel
theorem d_La_law_464 : decode b_La_law 464 = .ok (.ldc2_w 59, 3) := by decide +kernel
theorem d_La_law_467 : decode b_La_law 467 = .ok (.land, 1) := by decide +kernel
theorem d_La_law_468 : decode b_La_law 468 = .ok (.lor, 1) := by decide +kernel
theorem d_La_law_469 : decode b_La_law 469 = .ok (.aload_n 3, 1) := by decide +kernel
theorem d_La_law_470 : decode b_La_law 470 = .ok (.invokestatic 80, 3) := by decide +kernel
theorem d_La_law_473 : decode b_La_law 473 = .ok (.istore 5, 2) := by decide +kernel
theorem d_La_law_475 : decode b_La_law 475 = .ok (.aload_n 2, 1) := by decide +kernel
theorem d_La_law_476 : decode b_La_law 476 = .ok (.aload_n 0, 1) := by decide +kernel
theorem d_La_law_477 : decode b_La_law 477 = .ok (.iload 4, 2) := by decide +kernel
theorem d_La_law_479 : decode b_La_law 479 = .ok (.iconst 1, 1) := by decide +kernel
theorem d_La_law_480 : decode b_La_law 480 = .ok (.iadd, 1) := by decide +kernel
theorem d_La_law_481 : decode b_La_law 481 = .ok (.iaload, 1) := by decide +kernel
theorem d_La_law_482 : decode b_La_law 482 = .ok (.aload_n 0, 1) := by decide +kernel
theorem d_La_law_483 : decode b_La_law 483 = .ok (.iload 4, 2) := by decide +kernel
theorem d_La_law_485 : decode b_La_law 485 = .ok (.iconst 2, 1) := by decide +kernel
theorem d_La_law_486 : decode b_La_law 486 = .ok (.iadd, 1) := by decide +kernel
theorem d_La_law_487 : decode b_La_law 487 = .ok (.iaload, 1) := by decide +kernel
theorem d_La_law_488 : decode b_La_law 488 = .ok (.i2l, 1) := by decide +kernel
theorem d_La_law_489 : decode b_La_law 489 = .ok (.bipush 32, 2) := by decide +kernel
theorem d_La_law_491 : decode b_La_law 491 = .ok (.lshl, 1) := by decide +kernel
theorem d_La_law_492 : decode b_La_law 492 = .ok (.aload_n 0, 1) := by decide +kernel
theorem d_La_law_493 : decode b_La_law 493 = .ok (.iload 4, 2) := by decide +kernel
theorem d_La_law_495 : decode b_La_law 495 = .ok (.iconst 3, 1) := by decide +kernel
theorem d_La_law_496 : decode b_La_law 496 = .ok (.iadd, 1) := by decide +kernel
theorem d_La_law_497 : decode b_La_law 497 = .ok (.iaload, 1) := by decide +kernel
theorem d_La_law_498 : decode b_La_law 498 = .ok (.i2l, 1) := by decide +kernel
theorem d_La_law_499 : decode b_La_law 499 = .ok (.ldc2_w 59, 3) := by decide +kernel
theorem d_La_law_502 : decode b_La_law 502 = .ok (.land, 1) := by decide +kernel
theorem d_La_law_503 : decode b_La_law 503 = .ok (.lor, 1) := by decide +kernel
theorem d_La_law_504 : decode b_La_law 504 = .ok (.invokevirtual 83, 3) := by decide +kernel
theorem d_La_law_507 : decode b_La_law 507 = .ok (.istore 6, 2) := by decide +kernel
theorem d_La_law_509 : decode b_La_law 509 = .ok (.goto 396, 3) := by decide +kernel
theorem d_La_law_512 : decode b_La_law 512 = .ok (.aload_n 1, 1) := by decide +kernel
theorem d_La_law_513 : decode b_La_law 513 = .ok (.invokevirtual 84, 3) := by decide +kernel
theorem d_La_law_516 : decode b_La_law 516 = .ok (.pop, 1) := by decide +kernel
theorem d_La_law_517 : decode b_La_law 517 = .ok (.aload_n 2, 1) := by decide +kernel
theorem d_La_law_518 : decode b_La_law 518 = .ok (.invokevirtual 88, 3) := by decide +kernel
theorem d_La_law_521 : decode b_La_law 521 = .ok (.pop, 1) := by decide +kernel
theorem d_La_law_522 : decode b_La_law 522 = .ok (.goto 383, 3) := by decide +kernel
theorem d_La_law_525 : decode b_La_law 525 = .ok (.aload_n 1, 1) := by decide +kernel
theorem d_La_law_526 : decode b_La_law 526 = .ok (.aload_n 0, 1) := by decide +kernel
theorem d_La_law_527 : decode b_La_law 527 = .ok (.iload 4, 2) := by decide +kernel
theorem d_La_law_529 : decode b_La_law 529 = .ok (.iconst 1, 1) := by decide +kernel
theorem d_La_law_530 : decode b_La_law 530 = .ok (.iadd, 1) := by decide +kernel
theorem d_La_law_531 : decode b_La_law 531 = .ok (.iaload, 1) := by decide +kernel
theorem d_La_law_532 : decode b_La_law 532 = .ok (.aload_n 0, 1) := by decide +kernel
theorem d_La_law_533 : decode b_La_law 533 = .ok (.iload 4, 2) := by decide +kernel
theorem d_La_law_535 : decode b_La_law 535 = .ok (.iconst 2, 1) := by decide +kernel
theorem d_La_law_536 : decode b_La_law 536 = .ok (.iadd, 1) := by decide +kernel
theorem d_La_law_537 : decode b_La_law 537 = .ok (.iaload, 1) := by decide +kernel
theorem d_La_law_538 : decode b_La_law 538 = .ok (.aload_n 3, 1) := by decide +kernel
theorem d_La_law_539 : decode b_La_law 539 = .ok (.invokestatic 89, 3) := by decide +kernel
theorem d_La_law_542 : decode b_La_law 542 = .ok (.istore 5, 2) := by decide +kernel
theorem d_La_law_544 : decode b_La_law 544 = .ok (.aload_n 2, 1) := by decide +kernel
theorem d_La_law_545 : decode b_La_law 545 = .ok (.aload_n 0, 1) := by decide +kernel
theorem d_La_law_546 : decode b_La_law 546 = .ok (.iload 4, 2) := by decide +kernel
theorem d_La_law_548 : decode b_La_law 548 = .ok (.iconst 1, 1) := by decide +kernel
theorem d_La_law_549 : decode b_La_law 549 = .ok (.iadd, 1) := by decide +kernel
theorem d_La_law_550 : decode b_La_law 550 = .ok (.iaload, 1) := by decide +kernel
theorem d_La_law_551 : decode b_La_law 551 = .ok (.aload_n 0, 1) := by decide +kernel
theorem d_La_law_552 : decode b_La_law 552 = .ok (.iload 4, 2) := by decide +kernel
theorem d_La_law_554 : decode b_La_law 554 = .ok (.iconst 2, 1) := by decide +kernel
theorem d_La_law_555 : decode b_La_law 555 = .ok (.iadd, 1) := by decide +kernel
theorem d_La_law_556 : decode b_La_law 556 = .ok (.iaload, 1) := by decide +kernel
theorem d_La_law_557 : decode b_La_law 557 = .ok (.invokevirtual 91, 3) := by decide +kernel
theorem d_La_law_560 : decode b_La_law 560 = .ok (.istore 6, 2) := by decide +kernel
theorem d_La_law_562 : decode b_La_law 562 = .ok (.aload_n 2, 1) := by decide +kernel
theorem d_La_law_563 : decode b_La_law 563 = .ok (.invokevirtual 92, 3) := by decide +kernel
theorem d_La_law_566 : decode b_La_law 566 = .ok (.iload 5, 2) := by decide +kernel
theorem d_La_law_568 : decode b_La_law 568 = .ok (.if_icmp .eq 5, 3) := by decide +kernel
theorem d_La_law_571 : decode b_La_law 571 = .ok (.iconst 0, 1) := by decide +kernel
theorem d_La_law_572 : decode b_La_law 572 = .ok (.ireturn, 1) := by decide +kernel
theorem d_La_law_573 : decode b_La_law 573 = .ok (.iload 5, 2) := by decide +kernel
theorem d_La_law_575 : decode b_La_law 575 = .ok (.ifCond .ne 15, 3) := by decide +kernel
theorem d_La_law_578 : decode b_La_law 578 = .ok (.aload_n 3, 1) := by decide +kernel
theorem d_La_law_579 : decode b_La_law 579 = .ok (.iconst 0, 1) := by decide +kernel
theorem d_La_law_580 : decode b_La_law 580 = .ok (.laload, 1) := by decide +kernel
theorem d_La_law_581 : decode b_La_law 581 = .ok (.iload 6, 2) := by decide +kernel
theorem d_La_law_583 : decode b_La_law 583 = .ok (.i2l, 1) := by decide +kernel
theorem d_La_law_584 : decode b_La_law 584 = .ok (.lcmp, 1) := by decide +kernel
theorem d_La_law_585 : decode b_La_law 585 = .ok (.ifCond .eq 5, 3) := by decide +kernel
theorem d_La_law_588 : decode b_La_law 588 = .ok (.iconst 0, 1) := by decide +kernel
theorem d_La_law_589 : decode b_La_law 589 = .ok (.ireturn, 1) := by decide +kernel
theorem d_La_law_590 : decode b_La_law 590 = .ok (.goto 315, 3) := by decide +kernel
theorem d_La_law_593 : decode b_La_law 593 = .ok (.aload_n 1, 1) := by decide +kernel
theorem d_La_law_594 : decode b_La_law 594 = .ok (.invokevirtual 95, 3) := by decide +kernel
theorem d_La_law_597 : decode b_La_law 597 = .ok (.pop, 1) := by decide +kernel
theorem d_La_law_598 : decode b_La_law 598 = .ok (.aload_n 2, 1) := by decide +kernel
theorem d_La_law_599 : decode b_La_law 599 = .ok (.invokevirtual 98, 3) := by decide +kernel
theorem d_La_law_602 : decode b_La_law 602 = .ok (.pop, 1) := by decide +kernel
theorem d_La_law_603 : decode b_La_law 603 = .ok (.goto 302, 3) := by decide +kernel
theorem d_La_law_606 : decode b_La_law 606 = .ok (.aload_n 1, 1) := by decide +kernel
theorem d_La_law_607 : decode b_La_law 607 = .ok (.aload_n 0, 1) := by decide +kernel
theorem d_La_law_608 : decode b_La_law 608 = .ok (.iload 4, 2) := by decide +kernel
theorem d_La_law_610 : decode b_La_law 610 = .ok (.iconst 1, 1) := by decide +kernel
theorem d_La_law_611 : decode b_La_law 611 = .ok (.iadd, 1) := by decide +kernel
theorem d_La_law_612 : decode b_La_law 612 = .ok (.iaload, 1) := by decide +kernel
theorem d_La_law_613 : decode b_La_law 613 = .ok (.invokevirtual 99, 3) := by decide +kernel
theorem d_La_law_616 : decode b_La_law 616 = .ok (.pop2, 1) := by decide +kernel
theorem d_La_law_617 : decode b_La_law 617 = .ok (.aload_n 2, 1) := by decide +kernel
theorem d_La_law_618 : decode b_La_law 618 = .ok (.aload_n 0, 1) := by decide +kernel
theorem d_La_law_619 : decode b_La_law 619 = .ok (.iload 4, 2) := by decide +kernel
theorem d_La_law_621 : decode b_La_law 621 = .ok (.iconst 1, 1) := by decide +kernel
theorem d_La_law_622 : decode b_La_law 622 = .ok (.iadd, 1) := by decide +kernel
theorem d_La_law_623 : decode b_La_law 623 = .ok (.iaload, 1) := by decide +kernel
theorem d_La_law_624 : decode b_La_law 624 = .ok (.invokevirtual 103, 3) := by decide +kernel
theorem d_La_law_627 : decode b_La_law 627 = .ok (.pop2, 1) := by decide +kernel
theorem d_La_law_628 : decode b_La_law 628 = .ok (.goto 277, 3) := by decide +kernel
theorem d_La_law_631 : decode b_La_law 631 = .ok (.aload_n 1, 1) := by decide +kernel
theorem d_La_law_632 : decode b_La_law 632 = .ok (.aload_n 0, 1) := by decide +kernel
theorem d_La_law_633 : decode b_La_law 633 = .ok (.iload 4, 2) := by decide +kernel
theorem d_La_law_635 : decode b_La_law 635 = .ok (.iconst 1, 1) := by decide +kernel
theorem d_La_law_636 : decode b_La_law 636 = .ok (.iadd, 1) := by decide +kernel
theorem d_La_law_637 : decode b_La_law 637 = .ok (.iaload, 1) := by decide +kernel
theorem d_La_law_638 : decode b_La_law 638 = .ok (.aload_n 0, 1) := by decide +kernel
theorem d_La_law_639 : decode b_La_law 639 = .ok (.iload 4, 2) := by decide +kernel
theorem d_La_law_641 : decode b_La_law 641 = .ok (.iconst 2, 1) := by decide +kernel
theorem d_La_law_642 : decode b_La_law 642 = .ok (.iadd, 1) := by decide +kernel
theorem d_La_law_643 : decode b_La_law 643 = .ok (.iaload, 1) := by decide +kernel
theorem d_La_law_644 : decode b_La_law 644 = .ok (.aload_n 3, 1) := by decide +kernel
theorem d_La_law_645 : decode b_La_law 645 = .ok (.invokestatic 104, 3) := by decide +kernel
theorem d_La_law_648 : decode b_La_law 648 = .ok (.istore 5, 2) := by decide +kernel
theorem d_La_law_650 : decode b_La_law 650 = .ok (.aload_n 2, 1) := by decide +kernel
theorem d_La_law_651 : decode b_La_law 651 = .ok (.aload_n 0, 1) := by decide +kernel
theorem d_La_law_652 : decode b_La_law 652 = .ok (.iload 4, 2) := by decide +kernel
theorem d_La_law_654 : decode b_La_law 654 = .ok (.iconst 1, 1) := by decide +kernel
theorem d_La_law_655 : decode b_La_law 655 = .ok (.iadd, 1) := by decide +kernel
theorem d_La_law_656 : decode b_La_law 656 = .ok (.iaload, 1) := by decide +kernel
theorem d_La_law_657 : decode b_La_law 657 = .ok (.aload_n 0, 1) := by decide +kernel
theorem d_La_law_658 : decode b_La_law 658 = .ok (.iload 4, 2) := by decide +kernel
theorem d_La_law_660 : decode b_La_law 660 = .ok (.iconst 2, 1) := by decide +kernel
theorem d_La_law_661 : decode b_La_law 661 = .ok (.iadd, 1) := by decide +kernel
theorem d_La_law_662 : decode b_La_law 662 = .ok (.iaload, 1) := by decide +kernel
theorem d_La_law_663 : decode b_La_law 663 = .ok (.invokevirtual 106, 3) := by decide +kernel
theorem d_La_law_666 : decode b_La_law 666 = .ok (.istore 6, 2) := by decide +kernel
theorem d_La_law_668 : decode b_La_law 668 = .ok (.goto 237, 3) := by decide +kernel
theorem d_La_law_671 : decode b_La_law 671 = .ok (.aload_n 1, 1) := by decide +kernel
theorem d_La_law_672 : decode b_La_law 672 = .ok (.aload_n 0, 1) := by decide +kernel
theorem d_La_law_673 : decode b_La_law 673 = .ok (.iload 4, 2) := by decide +kernel
theorem d_La_law_675 : decode b_La_law 675 = .ok (.iconst 1, 1) := by decide +kernel
theorem d_La_law_676 : decode b_La_law 676 = .ok (.iadd, 1) := by decide +kernel
theorem d_La_law_677 : decode b_La_law 677 = .ok (.iaload, 1) := by decide +kernel
theorem d_La_law_678 : decode b_La_law 678 = .ok (.invokestatic 107, 3) := by decide +kernel
theorem d_La_law_681 : decode b_La_law 681 = .ok (.istore 5, 2) := by decide +kernel
theorem d_La_law_683 : decode b_La_law 683 = .ok (.aload_n 2, 1) := by decide +kernel
theorem d_La_law_684 : decode b_La_law 684 = .ok (.aload_n 0, 1) := by decide +kernel
theorem d_La_law_685 : decode b_La_law 685 = .ok (.iload 4, 2) := by decide +kernel
theorem d_La_law_687 : decode b_La_law 687 = .ok (.iconst 1, 1) := by decide +kernel
theorem d_La_law_688 : decode b_La_law 688 = .ok (.iadd, 1) := by decide +kernel
theorem d_La_law_689 : decode b_La_law 689 = .ok (.iaload, 1) := by decide +kernel
theorem d_La_law_690 : decode b_La_law 690 = .ok (.invokevirtual 110, 3) := by decide +kernel
theorem d_La_law_693 : decode b_La_law 693 = .ok (.goto 212, 3) := by decide +kernel
theorem d_La_law_696 : decode b_La_law 696 = .ok (.aload_n 1, 1) := by decide +kernel
theorem d_La_law_697 : decode b_La_law 697 = .ok (.aload_n 0, 1) := by decide +kernel
theorem d_La_law_698 : decode b_La_law 698 = .ok (.iload 4, 2) := by decide +kernel
theorem d_La_law_700 : decode b_La_law 700 = .ok (.iconst 1, 1) := by decide +kernel
theorem d_La_law_701 : decode b_La_law 701 = .ok (.iadd, 1) := by decide +kernel
theorem d_La_law_702 : decode b_La_law 702 = .ok (.iaload, 1) := by decide +kernel
theorem d_La_law_703 : decode b_La_law 703 = .ok (.invokestatic 111, 3) := by decide +kernel
theorem d_La_law_706 : decode b_La_law 706 = .ok (.istore 5, 2) := by decide +kernel
theorem d_La_law_708 : decode b_La_law 708 = .ok (.aload_n 2, 1) := by decide +kernel
theorem d_La_law_709 : decode b_La_law 709 = .ok (.aload_n 0, 1) := by decide +kernel
theorem d_La_law_710 : decode b_La_law 710 = .ok (.iload 4, 2) := by decide +kernel
theorem d_La_law_712 : decode b_La_law 712 = .ok (.iconst 1, 1) := by decide +kernel
theorem d_La_law_713 : decode b_La_law 713 = .ok (.iadd, 1) := by decide +kernel
theorem d_La_law_714 : decode b_La_law 714 = .ok (.iaload, 1) := by decide +kernel
theorem d_La_law_715 : decode b_La_law 715 = .ok (.invokevirtual 113, 3) := by decide +kernel
theorem d_La_law_718 : decode b_La_law 718 = .ok (.goto 187, 3) := by decide +kernel
theorem d_La_law_721 : decode b_La_law 721 = .ok (.aload_n 1, 1) := by decide +kernel

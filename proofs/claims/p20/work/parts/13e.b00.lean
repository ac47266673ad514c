theorem dX9_block_0 : decode cX9_block 0 = .ok (.aload_n 0, 1) := by decide +kernel
theorem dX9_block_1 : decode cX9_block 1 = .ok (.aload_n 0, 1) := by decide +kernel
theorem dX9_block_2 : decode cX9_block 2 = .ok (.getfield 72, 3) := by decide +kernel
theorem dX9_block_5 : decode cX9_block 5 = .ok (.ifCond .ne 7, 3) := by decide +kernel
theorem dX9_block_8 : decode cX9_block 8 = .ok (.iconst 1, 1) := by decide +kernel
theorem dX9_block_9 : decode cX9_block 9 = .ok (.goto 18, 3) := by decide +kernel
theorem dX9_block_12 : decode cX9_block 12 = .ok (.iload_n 1, 1) := by decide +kernel
theorem dX9_block_13 : decode cX9_block 13 = .ok (.iconst 1, 1) := by decide +kernel
theorem dX9_block_14 : decode cX9_block 14 = .ok (.ldc 208, 2) := by decide +kernel
theorem dX9_block_16 : decode cX9_block 16 = .ok (.invokestatic 138, 3) := by decide +kernel
theorem dX9_block_19 : decode cX9_block 19 = .ok (.ifCond .ne 7, 3) := by decide +kernel
theorem dX9_block_22 : decode cX9_block 22 = .ok (.iconst 2, 1) := by decide +kernel
theorem dX9_block_23 : decode cX9_block 23 = .ok (.goto 4, 3) := by decide +kernel
theorem dX9_block_26 : decode cX9_block 26 = .ok (.iconst 0, 1) := by decide +kernel
theorem dX9_block_27 : decode cX9_block 27 = .ok (.putfield 91, 3) := by decide +kernel
theorem dX9_block_30 : decode cX9_block 30 = .ok (.aload_n 0, 1) := by decide +kernel
theorem dX9_block_31 : decode cX9_block 31 = .ok (.getfield 91, 3) := by decide +kernel
theorem dX9_block_34 : decode cX9_block 34 = .ok (.ifCond .le 5, 3) := by decide +kernel
theorem dX9_block_37 : decode cX9_block 37 = .ok (.iconst 0, 1) := by decide +kernel
theorem dX9_block_38 : decode cX9_block 38 = .ok (.ireturn, 1) := by decide +kernel
theorem dX9_block_39 : decode cX9_block 39 = .ok (.aload_n 0, 1) := by decide +kernel
theorem dX9_block_40 : decode cX9_block 40 = .ok (.invokevirtual 300, 3) := by decide +kernel
theorem dX9_block_43 : decode cX9_block 43 = .ok (.aload_n 0, 1) := by decide +kernel
theorem dX9_block_44 : decode cX9_block 44 = .ok (.getfield 176, 3) := by decide +kernel
theorem dX9_block_47 : decode cX9_block 47 = .ok (.ifCond .eq 6, 3) := by decide +kernel
theorem dX9_block_50 : decode cX9_block 50 = .ok (.bipush (-3), 2) := by decide +kernel
theorem dX9_block_52 : decode cX9_block 52 = .ok (.ireturn, 1) := by decide +kernel
theorem dX9_block_53 : decode cX9_block 53 = .ok (.aload_n 0, 1) := by decide +kernel
theorem dX9_block_54 : decode cX9_block 54 = .ok (.lload_n 2, 1) := by decide +kernel
theorem dX9_block_55 : decode cX9_block 55 = .ok (.invokevirtual 303, 3) := by decide +kernel
theorem dX9_block_58 : decode cX9_block 58 = .ok (.lstore 4, 2) := by decide +kernel
theorem dX9_block_60 : decode cX9_block 60 = .ok (.lload 4, 2) := by decide +kernel
theorem dX9_block_62 : decode cX9_block 62 = .ok (.lconst 0, 1) := by decide +kernel
theorem dX9_block_63 : decode cX9_block 63 = .ok (.lcmp, 1) := by decide +kernel
theorem dX9_block_64 : decode cX9_block 64 = .ok (.ifCond .ne 7, 3) := by decide +kernel
theorem dX9_block_67 : decode cX9_block 67 = .ok (.iconst (-1), 1) := by decide +kernel
theorem dX9_block_68 : decode cX9_block 68 = .ok (.goto 13, 3) := by decide +kernel
theorem dX9_block_71 : decode cX9_block 71 = .ok (.aload_n 0, 1) := by decide +kernel
theorem dX9_block_72 : decode cX9_block 72 = .ok (.lload 4, 2) := by decide +kernel
theorem dX9_block_74 : decode cX9_block 74 = .ok (.aload_n 0, 1) := by decide +kernel
theorem dX9_block_75 : decode cX9_block 75 = .ok (.getfield 167, 3) := by decide +kernel
theorem dX9_block_78 : decode cX9_block 78 = .ok (.invokevirtual 228, 3) := by decide +kernel
theorem dX9_block_81 : decode cX9_block 81 = .ok (.istore 6, 2) := by decide +kernel
theorem dX9_block_83 : decode cX9_block 83 = .ok (.iload 6, 2) := by decide +kernel
theorem dX9_block_85 : decode cX9_block 85 = .ok (.iconst (-1), 1) := by decide +kernel
theorem dX9_block_86 : decode cX9_block 86 = .ok (.if_icmp .ne 24, 3) := by decide +kernel
theorem dX9_block_89 : decode cX9_block 89 = .ok (.aload_n 0, 1) := by decide +kernel
theorem dX9_block_90 : decode cX9_block 90 = .ok (.getfield 189, 3) := by decide +kernel
theorem dX9_block_93 : decode cX9_block 93 = .ok (.ifCond .eq 17, 3) := by decide +kernel
theorem dX9_block_96 : decode cX9_block 96 = .ok (.lload 4, 2) := by decide +kernel
theorem dX9_block_98 : decode cX9_block 98 = .ok (.aload_n 0, 1) := by decide +kernel
theorem dX9_block_99 : decode cX9_block 99 = .ok (.getfield 185, 3) := by decide +kernel
theorem dX9_block_102 : decode cX9_block 102 = .ok (.lcmp, 1) := by decide +kernel
theorem dX9_block_103 : decode cX9_block 103 = .ok (.ifCond .ne 7, 3) := by decide +kernel
theorem dX9_block_106 : decode cX9_block 106 = .ok (.iconst 1, 1) := by decide +kernel
theorem dX9_block_107 : decode cX9_block 107 = .ok (.goto 4, 3) := by decide +kernel
theorem dX9_block_110 : decode cX9_block 110 = .ok (.iconst 0, 1) := by decide +kernel
theorem dX9_block_111 : decode cX9_block 111 = .ok (.istore 7, 2) := by decide +kernel
theorem dX9_block_113 : decode cX9_block 113 = .ok (.lload 4, 2) := by decide +kernel
theorem dX9_block_115 : decode cX9_block 115 = .ok (.lconst 0, 1) := by decide +kernel
theorem dX9_block_116 : decode cX9_block 116 = .ok (.lcmp, 1) := by decide +kernel
theorem dX9_block_117 : decode cX9_block 117 = .ok (.ifCond .ne 14, 3) := by decide +kernel
theorem dX9_block_120 : decode cX9_block 120 = .ok (.aload_n 0, 1) := by decide +kernel
theorem dX9_block_121 : decode cX9_block 121 = .ok (.getfield 189, 3) := by decide +kernel
theorem dX9_block_124 : decode cX9_block 124 = .ok (.ifCond .ne 7, 3) := by decide +kernel
theorem dX9_block_127 : decode cX9_block 127 = .ok (.iconst 1, 1) := by decide +kernel
theorem dX9_block_128 : decode cX9_block 128 = .ok (.goto 4, 3) := by decide +kernel
theorem dX9_block_131 : decode cX9_block 131 = .ok (.iconst 0, 1) := by decide +kernel
theorem dX9_block_132 : decode cX9_block 132 = .ok (.istore 8, 2) := by decide +kernel
theorem dX9_block_134 : decode cX9_block 134 = .ok (.iload 6, 2) := by decide +kernel
theorem dX9_block_136 : decode cX9_block 136 = .ok (.iconst (-1), 1) := by decide +kernel
theorem dX9_block_137 : decode cX9_block 137 = .ok (.if_icmp .ne 16, 3) := by decide +kernel
theorem dX9_block_140 : decode cX9_block 140 = .ok (.iload 7, 2) := by decide +kernel
theorem dX9_block_142 : decode cX9_block 142 = .ok (.ifCond .ne 11, 3) := by decide +kernel
theorem dX9_block_145 : decode cX9_block 145 = .ok (.iload 8, 2) := by decide +kernel
theorem dX9_block_147 : decode cX9_block 147 = .ok (.ifCond .ne 6, 3) := by decide +kernel
theorem dX9_block_150 : decode cX9_block 150 = .ok (.bipush (-6), 2) := by decide +kernel
theorem dX9_block_152 : decode cX9_block 152 = .ok (.ireturn, 1) := by decide +kernel
theorem dX9_block_153 : decode cX9_block 153 = .ok (.iload 6, 2) := by decide +kernel
theorem dX9_block_155 : decode cX9_block 155 = .ok (.iconst (-1), 1) := by decide +kernel
theorem dX9_block_156 : decode cX9_block 156 = .ok (.if_icmp .eq 12, 3) := by decide +kernel
theorem dX9_block_159 : decode cX9_block 159 = .ok (.aload_n 0, 1) := by decide +kernel
theorem dX9_block_160 : decode cX9_block 160 = .ok (.iload 6, 2) := by decide +kernel
theorem dX9_block_162 : decode cX9_block 162 = .ok (.invokevirtual 205, 3) := by decide +kernel
theorem dX9_block_165 : decode cX9_block 165 = .ok (.goto 16, 3) := by decide +kernel
theorem dX9_block_168 : decode cX9_block 168 = .ok (.iload 7, 2) := by decide +kernel
theorem dX9_block_170 : decode cX9_block 170 = .ok (.ifCond .eq 10, 3) := by decide +kernel
theorem dX9_block_173 : decode cX9_block 173 = .ok (.aload_n 0, 1) := by decide +kernel
theorem dX9_block_174 : decode cX9_block 174 = .ok (.getfield 182, 3) := by decide +kernel
theorem dX9_block_177 : decode cX9_block 177 = .ok (.goto 4, 3) := by decide +kernel
theorem dX9_block_180 : decode cX9_block 180 = .ok (.iconst 0, 1) := by decide +kernel
theorem dX9_block_181 : decode cX9_block 181 = .ok (.istore 9, 2) := by decide +kernel
theorem dX9_block_183 : decode cX9_block 183 = .ok (.iload_n 1, 1) := by decide +kernel
theorem dX9_block_184 : decode cX9_block 184 = .ok (.iload 9, 2) := by decide +kernel
theorem dX9_block_186 : decode cX9_block 186 = .ok (.iconst 1, 1) := by decide +kernel
theorem dX9_block_187 : decode cX9_block 187 = .ok (.iadd, 1) := by decide +kernel
theorem dX9_block_188 : decode cX9_block 188 = .ok (.if_icmp .eq 6, 3) := by decide +kernel
theorem dX9_block_191 : decode cX9_block 191 = .ok (.bipush (-10), 2) := by decide +kernel
theorem dX9_block_193 : decode cX9_block 193 = .ok (.ireturn, 1) := by decide +kernel
theorem dX9_block_194 : decode cX9_block 194 = .ok (.aload_n 0, 1) := by decide +kernel
theorem dX9_block_195 : decode cX9_block 195 = .ok (.aload_n 0, 1) := by decide +kernel
theorem dX9_block_196 : decode cX9_block 196 = .ok (.ldc2_w 222, 3) := by decide +kernel
theorem dX9_block_199 : decode cX9_block 199 = .ok (.iload_n 1, 1) := by decide +kernel
theorem dX9_block_200 : decode cX9_block 200 = .ok (.i2l, 1) := by decide +kernel
theorem dX9_block_201 : decode cX9_block 201 = .ok (.iconst 4, 1) := by decide +kernel
theorem dX9_block_202 : decode cX9_block 202 = .ok (.invokevirtual 224, 3) := by decide +kernel
theorem dX9_block_205 : decode cX9_block 205 = .ok (.lload 4, 2) := by decide +kernel
theorem dX9_block_207 : decode cX9_block 207 = .ok (.bipush 8, 2) := by decide +kernel
theorem dX9_block_209 : decode cX9_block 209 = .ok (.invokevirtual 224, 3) := by decide +kernel
theorem dX9_block_212 : decode cX9_block 212 = .ok (.lstore 10, 2) := by decide +kernel
theorem dX9_block_214 : decode cX9_block 214 = .ok (.iconst 0, 1) := by decide +kernel
theorem dX9_block_215 : decode cX9_block 215 = .ok (.istore 12, 2) := by decide +kernel
theorem dX9_block_217 : decode cX9_block 217 = .ok (.iload 12, 2) := by decide +kernel
theorem dX9_block_219 : decode cX9_block 219 = .ok (.aload_n 0, 1) := by decide +kernel
theorem dX9_block_220 : decode cX9_block 220 = .ok (.getfield 111, 3) := by decide +kernel
theorem dX9_block_223 : decode cX9_block 223 = .ok (.if_icmp .ge 39, 3) := by decide +kernel
theorem dX9_block_226 : decode cX9_block 226 = .ok (.aload_n 0, 1) := by decide +kernel
theorem dX9_block_227 : decode cX9_block 227 = .ok (.aload_n 0, 1) := by decide +kernel
theorem dX9_block_228 : decode cX9_block 228 = .ok (.lload 10, 2) := by decide +kernel
theorem dX9_block_230 : decode cX9_block 230 = .ok (.aload_n 0, 1) := by decide +kernel
theorem dX9_block_231 : decode cX9_block 231 = .ok (.getfield 17, 3) := by decide +kernel
theorem dX9_block_234 : decode cX9_block 234 = .ok (.iload 12, 2) := by decide +kernel
theorem dX9_block_236 : decode cX9_block 236 = .ok (.iaload, 1) := by decide +kernel
theorem dX9_block_237 : decode cX9_block 237 = .ok (.i2l, 1) := by decide +kernel
theorem dX9_block_238 : decode cX9_block 238 = .ok (.iconst 4, 1) := by decide +kernel
theorem dX9_block_239 : decode cX9_block 239 = .ok (.invokevirtual 224, 3) := by decide +kernel
theorem dX9_block_242 : decode cX9_block 242 = .ok (.aload_n 0, 1) := by decide +kernel
theorem dX9_block_243 : decode cX9_block 243 = .ok (.getfield 20, 3) := by decide +kernel
theorem dX9_block_246 : decode cX9_block 246 = .ok (.iload 12, 2) := by decide +kernel
theorem dX9_block_248 : decode cX9_block 248 = .ok (.laload, 1) := by decide +kernel
theorem dX9_block_249 : decode cX9_block 249 = .ok (.bipush 8, 2) := by decide +kernel
theorem dX9_block_251 : decode cX9_block 251 = .ok (.invokevirtual 224, 3) := by decide +kernel
theorem dX9_block_254 : decode cX9_block 254 = .ok (.lstore 10, 2) := by decide +kernel
theorem dX9_block_256 : decode cX9_block 256 = .ok (.iinc 12 1, 3) := by decide +kernel
theorem dX9_block_259 : decode cX9_block 259 = .ok (.goto (-42), 3) := by decide +kernel
theorem dX9_block_262 : decode cX9_block 262 = .ok (.aload_n 0, 1) := by decide +kernel
theorem dX9_block_263 : decode cX9_block 263 = .ok (.lload 10, 2) := by decide +kernel
theorem dX9_block_265 : decode cX9_block 265 = .ok (.aload_n 0, 1) := by decide +kernel
theorem dX9_block_266 : decode cX9_block 266 = .ok (.getfield 167, 3) := by decide +kernel
theorem dX9_block_269 : decode cX9_block 269 = .ok (.invokevirtual 228, 3) := by decide +kernel
theorem dX9_block_272 : decode cX9_block 272 = .ok (.istore 12, 2) := by decide +kernel
theorem dX9_block_274 : decode cX9_block 274 = .ok (.iload 12, 2) := by decide +kernel
theorem dX9_block_276 : decode cX9_block 276 = .ok (.iconst (-1), 1) := by decide +kernel
theorem dX9_block_277 : decode cX9_block 277 = .ok (.if_icmp .eq 11, 3) := by decide +kernel
theorem dX9_block_280 : decode cX9_block 280 = .ok (.aload_n 0, 1) := by decide +kernel
theorem dX9_block_281 : decode cX9_block 281 = .ok (.iconst 0, 1) := by decide +kernel
theorem dX9_block_282 : decode cX9_block 282 = .ok (.putfield 111, 3) := by decide +kernel
theorem dX9_block_285 : decode cX9_block 285 = .ok (.iload 12, 2) := by decide +kernel
theorem dX9_block_287 : decode cX9_block 287 = .ok (.ireturn, 1) := by decide +kernel
theorem dX9_block_288 : decode cX9_block 288 = .ok (.aload_n 0, 1) := by decide +kernel
theorem dX9_block_289 : decode cX9_block 289 = .ok (.getfield 167, 3) := by decide +kernel
theorem dX9_block_292 : decode cX9_block 292 = .ok (.iconst 1, 1) := by decide +kernel
theorem dX9_block_293 : decode cX9_block 293 = .ok (.iadd, 1) := by decide +kernel
theorem dX9_block_294 : decode cX9_block 294 = .ok (.aload_n 0, 1) := by decide +kernel
theorem dX9_block_295 : decode cX9_block 295 = .ok (.getfield 111, 3) := by decide +kernel
theorem dX9_block_298 : decode cX9_block 298 = .ok (.iadd, 1) := by decide +kernel
theorem dX9_block_299 : decode cX9_block 299 = .ok (.sipush 128, 3) := by decide +kernel
theorem dX9_block_302 : decode cX9_block 302 = .ok (.if_icmp .le 6, 3) := by decide +kernel
theorem dX9_block_305 : decode cX9_block 305 = .ok (.bipush (-2), 2) := by decide +kernel
theorem dX9_block_307 : decode cX9_block 307 = .ok (.ireturn, 1) := by decide +kernel
theorem dX9_block_308 : decode cX9_block 308 = .ok (.aload_n 0, 1) := by decide +kernel
theorem dX9_block_309 : decode cX9_block 309 = .ok (.getfield 111, 3) := by decide +kernel
theorem dX9_block_312 : decode cX9_block 312 = .ok (.istore 13, 2) := by decide +kernel
theorem dX9_block_314 : decode cX9_block 314 = .ok (.aload_n 0, 1) := by decide +kernel
theorem dX9_block_315 : decode cX9_block 315 = .ok (.iconst 2, 1) := by decide +kernel
theorem dX9_block_316 : decode cX9_block 316 = .ok (.iload_n 1, 1) := by decide +kernel
theorem dX9_block_317 : decode cX9_block 317 = .ok (.iload 13, 2) := by decide +kernel
theorem dX9_block_319 : decode cX9_block 319 = .ok (.lload 4, 2) := by decide +kernel
theorem dX9_block_321 : decode cX9_block 321 = .ok (.invokevirtual 307, 3) := by decide +kernel
theorem dX9_block_324 : decode cX9_block 324 = .ok (.aload_n 0, 1) := by decide +kernel
theorem dX9_block_325 : decode cX9_block 325 = .ok (.aload_n 0, 1) := by decide +kernel
theorem dX9_block_326 : decode cX9_block 326 = .ok (.aload_n 0, 1) := by decide +kernel
theorem dX9_block_327 : decode cX9_block 327 = .ok (.getfield 76, 3) := by decide +kernel
theorem dX9_block_330 : decode cX9_block 330 = .ok (.aload_n 0, 1) := by decide +kernel
theorem dX9_block_331 : decode cX9_block 331 = .ok (.getfield 167, 3) := by decide +kernel
theorem dX9_block_334 : decode cX9_block 334 = .ok (.invokevirtual 146, 3) := by decide +kernel
theorem dX9_block_337 : decode cX9_block 337 = .ok (.bipush 32, 2) := by decide +kernel
theorem dX9_block_339 : decode cX9_block 339 = .ok (.invokevirtual 281, 3) := by decide +kernel
theorem dX9_block_342 : decode cX9_block 342 = .ok (.iconst 0, 1) := by decide +kernel
theorem dX9_block_343 : decode cX9_block 343 = .ok (.istore 14, 2) := by decide +kernel
theorem dX9_block_345 : decode cX9_block 345 = .ok (.iload 14, 2) := by decide +kernel
theorem dX9_block_347 : decode cX9_block 347 = .ok (.iload 13, 2) := by decide +kernel
theorem dX9_block_349 : decode cX9_block 349 = .ok (.if_icmp .ge 52, 3) := by decide +kernel
theorem dX9_block_352 : decode cX9_block 352 = .ok (.aload_n 0, 1) := by decide +kernel
theorem dX9_block_353 : decode cX9_block 353 = .ok (.iconst 3, 1) := by decide +kernel
theorem dX9_block_354 : decode cX9_block 354 = .ok (.aload_n 0, 1) := by decide +kernel
theorem dX9_block_355 : decode cX9_block 355 = .ok (.getfield 17, 3) := by decide +kernel
theorem dX9_block_358 : decode cX9_block 358 = .ok (.iload 14, 2) := by decide +kernel
theorem dX9_block_360 : decode cX9_block 360 = .ok (.iaload, 1) := by decide +kernel
theorem dX9_block_361 : decode cX9_block 361 = .ok (.iconst 0, 1) := by decide +kernel
theorem dX9_block_362 : decode cX9_block 362 = .ok (.aload_n 0, 1) := by decide +kernel
theorem dX9_block_363 : decode cX9_block 363 = .ok (.getfield 20, 3) := by decide +kernel
theorem dX9_block_366 : decode cX9_block 366 = .ok (.iload 14, 2) := by decide +kernel
theorem dX9_block_368 : decode cX9_block 368 = .ok (.laload, 1) := by decide +kernel
theorem dX9_block_369 : decode cX9_block 369 = .ok (.invokevirtual 307, 3) := by decide +kernel
theorem dX9_block_372 : decode cX9_block 372 = .ok (.aload_n 0, 1) := by decide +kernel
theorem dX9_block_373 : decode cX9_block 373 = .ok (.aload_n 0, 1) := by decide +kernel
theorem dX9_block_374 : decode cX9_block 374 = .ok (.aload_n 0, 1) := by decide +kernel
theorem dX9_block_375 : decode cX9_block 375 = .ok (.getfield 76, 3) := by decide +kernel
theorem dX9_block_378 : decode cX9_block 378 = .ok (.aload_n 0, 1) := by decide +kernel
theorem dX9_block_379 : decode cX9_block 379 = .ok (.getfield 167, 3) := by decide +kernel
theorem dX9_block_382 : decode cX9_block 382 = .ok (.iconst 1, 1) := by decide +kernel
theorem dX9_block_383 : decode cX9_block 383 = .ok (.iadd, 1) := by decide +kernel
theorem dX9_block_384 : decode cX9_block 384 = .ok (.iload 14, 2) := by decide +kernel
theorem dX9_block_386 : decode cX9_block 386 = .ok (.iadd, 1) := by decide +kernel
theorem dX9_block_387 : decode cX9_block 387 = .ok (.invokevirtual 146, 3) := by decide +kernel
theorem dX9_block_390 : decode cX9_block 390 = .ok (.bipush 32, 2) := by decide +kernel
theorem dX9_block_392 : decode cX9_block 392 = .ok (.invokevirtual 281, 3) := by decide +kernel
theorem dX9_block_395 : decode cX9_block 395 = .ok (.iinc 14 1, 3) := by decide +kernel
theorem dX9_block_398 : decode cX9_block 398 = .ok (.goto (-53), 3) := by decide +kernel
theorem dX9_block_401 : decode cX9_block 401 = .ok (.aload_n 0, 1) := by decide +kernel
theorem dX9_block_402 : decode cX9_block 402 = .ok (.iconst 0, 1) := by decide +kernel
theorem dX9_block_403 : decode cX9_block 403 = .ok (.putfield 111, 3) := by decide +kernel
theorem dX9_block_406 : decode cX9_block 406 = .ok (.aload_n 0, 1) := by decide +kernel
theorem dX9_block_407 : decode cX9_block 407 = .ok (.aload_n 0, 1) := by decide +kernel
theorem dX9_block_408 : decode cX9_block 408 = .ok (.getfield 167, 3) := by decide +kernel
theorem dX9_block_411 : decode cX9_block 411 = .ok (.iconst 1, 1) := by decide +kernel
theorem dX9_block_412 : decode cX9_block 412 = .ok (.iadd, 1) := by decide +kernel
theorem dX9_block_413 : decode cX9_block 413 = .ok (.iload 13, 2) := by decide +kernel
theorem dX9_block_415 : decode cX9_block 415 = .ok (.iadd, 1) := by decide +kernel
theorem dX9_block_416 : decode cX9_block 416 = .ok (.putfield 157, 3) := by decide +kernel
theorem dX9_block_419 : decode cX9_block 419 = .ok (.aload_n 0, 1) := by decide +kernel
theorem dX9_block_420 : decode cX9_block 420 = .ok (.getfield 108, 3) := by decide +kernel
theorem dX9_block_423 : decode cX9_block 423 = .ok (.ifCond .eq 8, 3) := by decide +kernel
theorem dX9_block_426 : decode cX9_block 426 = .ok (.bipush (-4), 2) := by decide +kernel
theorem dX9_block_428 : decode cX9_block 428 = .ok (.goto 7, 3) := by decide +kernel
theorem dX9_block_431 : decode cX9_block 431 = .ok (.aload_n 0, 1) := by decide +kernel
theorem dX9_block_432 : decode cX9_block 432 = .ok (.getfield 167, 3) := by decide +kernel
theorem dX9_block_435 : decode cX9_block 435 = .ok (.ireturn, 1) := by decide +kernel
theorem dX9_digest_0 : decode cX9_digest 0 = .ok (.aload_n 0, 1) := by decide +kernel
theorem dX9_digest_1 : decode cX9_digest 1 = .ok (.aload_n 0, 1) := by decide +kernel
theorem dX9_digest_2 : decode cX9_digest 2 = .ok (.iload_n 1, 1) := by decide +kernel
theorem dX9_digest_3 : decode cX9_digest 3 = .ok (.invokevirtual 311, 3) := by decide +kernel
theorem dX9_digest_6 : decode cX9_digest 6 = .ok (.ifCond .ne 7, 3) := by decide +kernel
theorem dX9_digest_9 : decode cX9_digest 9 = .ok (.iconst 1, 1) := by decide +kernel
theorem dX9_digest_10 : decode cX9_digest 10 = .ok (.goto 15, 3) := by decide +kernel
theorem dX9_digest_13 : decode cX9_digest 13 = .ok (.aload_n 0, 1) := by decide +kernel
theorem dX9_digest_14 : decode cX9_digest 14 = .ok (.getfield 72, 3) := by decide +kernel
theorem dX9_digest_17 : decode cX9_digest 17 = .ok (.ifCond .ne 7, 3) := by decide +kernel
theorem dX9_digest_20 : decode cX9_digest 20 = .ok (.iconst 2, 1) := by decide +kernel
theorem dX9_digest_21 : decode cX9_digest 21 = .ok (.goto 4, 3) := by decide +kernel
theorem dX9_digest_24 : decode cX9_digest 24 = .ok (.iconst 0, 1) := by decide +kernel
theorem dX9_digest_25 : decode cX9_digest 25 = .ok (.putfield 91, 3) := by decide +kernel
theorem dX9_digest_28 : decode cX9_digest 28 = .ok (.aload_n 0, 1) := by decide +kernel
theorem dX9_digest_29 : decode cX9_digest 29 = .ok (.getfield 91, 3) := by decide +kernel
theorem dX9_digest_32 : decode cX9_digest 32 = .ok (.ifCond .le 5, 3) := by decide +kernel
theorem dX9_digest_35 : decode cX9_digest 35 = .ok (.lconst 0, 1) := by decide +kernel
theorem dX9_digest_36 : decode cX9_digest 36 = .ok (.lreturn, 1) := by decide +kernel
theorem dX9_digest_37 : decode cX9_digest 37 = .ok (.aload_n 0, 1) := by decide +kernel
theorem dX9_digest_38 : decode cX9_digest 38 = .ok (.invokevirtual 300, 3) := by decide +kernel
theorem dX9_digest_41 : decode cX9_digest 41 = .ok (.aload_n 0, 1) := by decide +kernel
theorem dX9_digest_42 : decode cX9_digest 42 = .ok (.getfield 176, 3) := by decide +kernel
theorem dX9_digest_45 : decode cX9_digest 45 = .ok (.ifCond .ne 12, 3) := by decide +kernel
theorem dX9_digest_48 : decode cX9_digest 48 = .ok (.aload_n 0, 1) := by decide +kernel
theorem dX9_digest_49 : decode cX9_digest 49 = .ok (.getfield 30, 3) := by decide +kernel
theorem dX9_digest_52 : decode cX9_digest 52 = .ok (.iload_n 1, 1) := by decide +kernel
theorem dX9_digest_53 : decode cX9_digest 53 = .ok (.baload, 1) := by decide +kernel
theorem dX9_digest_54 : decode cX9_digest 54 = .ok (.ifCond .ne 7, 3) := by decide +kernel
theorem dX9_digest_57 : decode cX9_digest 57 = .ok (.lconst 0, 1) := by decide +kernel
theorem dX9_digest_58 : decode cX9_digest 58 = .ok (.goto 9, 3) := by decide +kernel
theorem dX9_digest_61 : decode cX9_digest 61 = .ok (.aload_n 0, 1) := by decide +kernel
theorem dX9_digest_62 : decode cX9_digest 62 = .ok (.getfield 27, 3) := by decide +kernel
theorem dX9_digest_65 : decode cX9_digest 65 = .ok (.iload_n 1, 1) := by decide +kernel
theorem dX9_digest_66 : decode cX9_digest 66 = .ok (.laload, 1) := by decide +kernel
theorem dX9_digest_67 : decode cX9_digest 67 = .ok (.lreturn, 1) := by decide +kernel
theorem dX9_vote_0 : decode cX9_vote 0 = .ok (.aload_n 0, 1) := by decide +kernel
theorem dX9_vote_1 : decode cX9_vote 1 = .ok (.aload_n 0, 1) := by decide +kernel
theorem dX9_vote_2 : decode cX9_vote 2 = .ok (.getfield 72, 3) := by decide +kernel
theorem dX9_vote_5 : decode cX9_vote 5 = .ok (.ifCond .ne 7, 3) := by decide +kernel
theorem dX9_vote_8 : decode cX9_vote 8 = .ok (.iconst 1, 1) := by decide +kernel
theorem dX9_vote_9 : decode cX9_vote 9 = .ok (.goto 28, 3) := by decide +kernel
theorem dX9_vote_12 : decode cX9_vote 12 = .ok (.iload_n 1, 1) := by decide +kernel
theorem dX9_vote_13 : decode cX9_vote 13 = .ok (.iconst 1, 1) := by decide +kernel
theorem dX9_vote_14 : decode cX9_vote 14 = .ok (.ldc 208, 2) := by decide +kernel
theorem dX9_vote_16 : decode cX9_vote 16 = .ok (.invokestatic 138, 3) := by decide +kernel
theorem dX9_vote_19 : decode cX9_vote 19 = .ok (.ifCond .eq 13, 3) := by decide +kernel
theorem dX9_vote_22 : decode cX9_vote 22 = .ok (.iload_n 2, 1) := by decide +kernel
theorem dX9_vote_23 : decode cX9_vote 23 = .ok (.iconst 0, 1) := by decide +kernel
theorem dX9_vote_24 : decode cX9_vote 24 = .ok (.ldc 208, 2) := by decide +kernel
theorem dX9_vote_26 : decode cX9_vote 26 = .ok (.invokestatic 138, 3) := by decide +kernel
theorem dX9_vote_29 : decode cX9_vote 29 = .ok (.ifCond .ne 7, 3) := by decide +kernel
theorem dX9_vote_32 : decode cX9_vote 32 = .ok (.iconst 2, 1) := by decide +kernel
theorem dX9_vote_33 : decode cX9_vote 33 = .ok (.goto 4, 3) := by decide +kernel
theorem dX9_vote_36 : decode cX9_vote 36 = .ok (.iconst 0, 1) := by decide +kernel
theorem dX9_vote_37 : decode cX9_vote 37 = .ok (.putfield 91, 3) := by decide +kernel
theorem dX9_vote_40 : decode cX9_vote 40 = .ok (.aload_n 0, 1) := by decide +kernel
theorem dX9_vote_41 : decode cX9_vote 41 = .ok (.getfield 91, 3) := by decide +kernel
theorem dX9_vote_44 : decode cX9_vote 44 = .ok (.ifCond .le 5, 3) := by decide +kernel
theorem dX9_vote_47 : decode cX9_vote 47 = .ok (.iconst 0, 1) := by decide +kernel
theorem dX9_vote_48 : decode cX9_vote 48 = .ok (.ireturn, 1) := by decide +kernel
theorem dX9_vote_49 : decode cX9_vote 49 = .ok (.aload_n 0, 1) := by decide +kernel
theorem dX9_vote_50 : decode cX9_vote 50 = .ok (.invokevirtual 300, 3) := by decide +kernel
theorem dX9_vote_53 : decode cX9_vote 53 = .ok (.aload_n 0, 1) := by decide +kernel
theorem dX9_vote_54 : decode cX9_vote 54 = .ok (.getfield 176, 3) := by decide +kernel
theorem dX9_vote_57 : decode cX9_vote 57 = .ok (.ifCond .eq 6, 3) := by decide +kernel
theorem dX9_vote_60 : decode cX9_vote 60 = .ok (.bipush (-3), 2) := by decide +kernel
theorem dX9_vote_62 : decode cX9_vote 62 = .ok (.ireturn, 1) := by decide +kernel
theorem dX9_vote_63 : decode cX9_vote 63 = .ok (.aload_n 0, 1) := by decide +kernel
theorem dX9_vote_64 : decode cX9_vote 64 = .ok (.lload_n 3, 1) := by decide +kernel
theorem dX9_vote_65 : decode cX9_vote 65 = .ok (.invokevirtual 303, 3) := by decide +kernel
theorem dX9_vote_68 : decode cX9_vote 68 = .ok (.lstore 5, 2) := by decide +kernel
theorem dX9_vote_70 : decode cX9_vote 70 = .ok (.aload_n 0, 1) := by decide +kernel
theorem dX9_vote_71 : decode cX9_vote 71 = .ok (.lload 5, 2) := by decide +kernel
theorem dX9_vote_73 : decode cX9_vote 73 = .ok (.aload_n 0, 1) := by decide +kernel
theorem dX9_vote_74 : decode cX9_vote 74 = .ok (.getfield 167, 3) := by decide +kernel
theorem dX9_vote_77 : decode cX9_vote 77 = .ok (.invokevirtual 228, 3) := by decide +kernel
theorem dX9_vote_80 : decode cX9_vote 80 = .ok (.istore 7, 2) := by decide +kernel
theorem dX9_vote_82 : decode cX9_vote 82 = .ok (.iload 7, 2) := by decide +kernel
theorem dX9_vote_84 : decode cX9_vote 84 = .ok (.iconst (-1), 1) := by decide +kernel
theorem dX9_vote_85 : decode cX9_vote 85 = .ok (.if_icmp .eq 13, 3) := by decide +kernel
theorem dX9_vote_88 : decode cX9_vote 88 = .ok (.aload_n 0, 1) := by decide +kernel
theorem dX9_vote_89 : decode cX9_vote 89 = .ok (.iload 7, 2) := by decide +kernel
theorem dX9_vote_91 : decode cX9_vote 91 = .ok (.invokevirtual 205, 3) := by decide +kernel
theorem dX9_vote_94 : decode cX9_vote 94 = .ok (.iload_n 1, 1) := by decide +kernel
theorem dX9_vote_95 : decode cX9_vote 95 = .ok (.if_icmp .eq 6, 3) := by decide +kernel
theorem dX9_vote_98 : decode cX9_vote 98 = .ok (.bipush (-6), 2) := by decide +kernel
theorem dX9_vote_100 : decode cX9_vote 100 = .ok (.ireturn, 1) := by decide +kernel
theorem dX9_vote_101 : decode cX9_vote 101 = .ok (.aload_n 0, 1) := by decide +kernel
theorem dX9_vote_102 : decode cX9_vote 102 = .ok (.getfield 179, 3) := by decide +kernel
theorem dX9_vote_105 : decode cX9_vote 105 = .ok (.iconst (-1), 1) := by decide +kernel
theorem dX9_vote_106 : decode cX9_vote 106 = .ok (.if_icmp .eq 75, 3) := by decide +kernel
theorem dX9_vote_109 : decode cX9_vote 109 = .ok (.aload_n 0, 1) := by decide +kernel
theorem dX9_vote_110 : decode cX9_vote 110 = .ok (.aload_n 0, 1) := by decide +kernel
theorem dX9_vote_111 : decode cX9_vote 111 = .ok (.getfield 179, 3) := by decide +kernel
theorem dX9_vote_114 : decode cX9_vote 114 = .ok (.invokevirtual 205, 3) := by decide +kernel
theorem dX9_vote_117 : decode cX9_vote 117 = .ok (.istore 8, 2) := by decide +kernel
theorem dX9_vote_119 : decode cX9_vote 119 = .ok (.aload_n 0, 1) := by decide +kernel
theorem dX9_vote_120 : decode cX9_vote 120 = .ok (.aload_n 0, 1) := by decide +kernel
theorem dX9_vote_121 : decode cX9_vote 121 = .ok (.getfield 179, 3) := by decide +kernel
theorem dX9_vote_124 : decode cX9_vote 124 = .ok (.invokevirtual 209, 3) := by decide +kernel
theorem dX9_vote_127 : decode cX9_vote 127 = .ok (.istore 9, 2) := by decide +kernel
theorem dX9_vote_129 : decode cX9_vote 129 = .ok (.iload 8, 2) := by decide +kernel
theorem dX9_vote_131 : decode cX9_vote 131 = .ok (.iload_n 1, 1) := by decide +kernel
theorem dX9_vote_132 : decode cX9_vote 132 = .ok (.if_icmp .ne 28, 3) := by decide +kernel
theorem dX9_vote_135 : decode cX9_vote 135 = .ok (.iload 9, 2) := by decide +kernel
theorem dX9_vote_137 : decode cX9_vote 137 = .ok (.iload_n 2, 1) := by decide +kernel
theorem dX9_vote_138 : decode cX9_vote 138 = .ok (.if_icmp .ne 22, 3) := by decide +kernel
theorem dX9_vote_141 : decode cX9_vote 141 = .ok (.aload_n 0, 1) := by decide +kernel
theorem dX9_vote_142 : decode cX9_vote 142 = .ok (.aload_n 0, 1) := by decide +kernel
theorem dX9_vote_143 : decode cX9_vote 143 = .ok (.getfield 179, 3) := by decide +kernel
theorem dX9_vote_146 : decode cX9_vote 146 = .ok (.invokevirtual 215, 3) := by decide +kernel
theorem dX9_vote_149 : decode cX9_vote 149 = .ok (.lload 5, 2) := by decide +kernel
theorem dX9_vote_151 : decode cX9_vote 151 = .ok (.lcmp, 1) := by decide +kernel
theorem dX9_vote_152 : decode cX9_vote 152 = .ok (.ifCond .ne 8, 3) := by decide +kernel
theorem dX9_vote_155 : decode cX9_vote 155 = .ok (.aload_n 0, 1) := by decide +kernel
theorem dX9_vote_156 : decode cX9_vote 156 = .ok (.getfield 179, 3) := by decide +kernel
theorem dX9_vote_159 : decode cX9_vote 159 = .ok (.ireturn, 1) := by decide +kernel
theorem dX9_vote_160 : decode cX9_vote 160 = .ok (.iload 8, 2) := by decide +kernel
theorem dX9_vote_162 : decode cX9_vote 162 = .ok (.iload_n 1, 1) := by decide +kernel
theorem dX9_vote_163 : decode cX9_vote 163 = .ok (.if_icmp .gt 15, 3) := by decide +kernel
theorem dX9_vote_166 : decode cX9_vote 166 = .ok (.iload 8, 2) := by decide +kernel
theorem dX9_vote_168 : decode cX9_vote 168 = .ok (.iload_n 1, 1) := by decide +kernel
theorem dX9_vote_169 : decode cX9_vote 169 = .ok (.if_icmp .ne 12, 3) := by decide +kernel
theorem dX9_vote_172 : decode cX9_vote 172 = .ok (.iload 9, 2) := by decide +kernel
theorem dX9_vote_174 : decode cX9_vote 174 = .ok (.iload_n 2, 1) := by decide +kernel
theorem dX9_vote_175 : decode cX9_vote 175 = .ok (.if_icmp .lt 6, 3) := by decide +kernel
theorem dX9_vote_178 : decode cX9_vote 178 = .ok (.bipush (-7), 2) := by decide +kernel
theorem dX9_vote_180 : decode cX9_vote 180 = .ok (.ireturn, 1) := by decide +kernel
theorem dX9_vote_181 : decode cX9_vote 181 = .ok (.aload_n 0, 1) := by decide +kernel
theorem dX9_vote_182 : decode cX9_vote 182 = .ok (.getfield 167, 3) := by decide +kernel
theorem dX9_vote_185 : decode cX9_vote 185 = .ok (.sipush 128, 3) := by decide +kernel
theorem dX9_vote_188 : decode cX9_vote 188 = .ok (.if_icmp .ne 6, 3) := by decide +kernel
theorem dX9_vote_191 : decode cX9_vote 191 = .ok (.bipush (-2), 2) := by decide +kernel
theorem dX9_vote_193 : decode cX9_vote 193 = .ok (.ireturn, 1) := by decide +kernel
theorem dX9_vote_194 : decode cX9_vote 194 = .ok (.aload_n 0, 1) := by decide +kernel
theorem dX9_vote_195 : decode cX9_vote 195 = .ok (.iconst 1, 1) := by decide +kernel
theorem dX9_vote_196 : decode cX9_vote 196 = .ok (.iload_n 1, 1) := by decide +kernel
theorem dX9_vote_197 : decode cX9_vote 197 = .ok (.iload_n 2, 1) := by decide +kernel
theorem dX9_vote_198 : decode cX9_vote 198 = .ok (.lload 5, 2) := by decide +kernel
theorem dX9_vote_200 : decode cX9_vote 200 = .ok (.invokevirtual 307, 3) := by decide +kernel
theorem dX9_vote_203 : decode cX9_vote 203 = .ok (.aload_n 0, 1) := by decide +kernel
theorem dX9_vote_204 : decode cX9_vote 204 = .ok (.aload_n 0, 1) := by decide +kernel
theorem dX9_vote_205 : decode cX9_vote 205 = .ok (.aload_n 0, 1) := by decide +kernel
theorem dX9_vote_206 : decode cX9_vote 206 = .ok (.getfield 76, 3) := by decide +kernel
theorem dX9_vote_209 : decode cX9_vote 209 = .ok (.aload_n 0, 1) := by decide +kernel
theorem dX9_vote_210 : decode cX9_vote 210 = .ok (.getfield 167, 3) := by decide +kernel
theorem dX9_vote_213 : decode cX9_vote 213 = .ok (.invokevirtual 146, 3) := by decide +kernel
theorem dX9_vote_216 : decode cX9_vote 216 = .ok (.bipush 32, 2) := by decide +kernel
theorem dX9_vote_218 : decode cX9_vote 218 = .ok (.invokevirtual 281, 3) := by decide +kernel
theorem dX9_vote_221 : decode cX9_vote 221 = .ok (.aload_n 0, 1) := by decide +kernel
theorem dX9_vote_222 : decode cX9_vote 222 = .ok (.dup, 1) := by decide +kernel
theorem dX9_vote_223 : decode cX9_vote 223 = .ok (.getfield 157, 3) := by decide +kernel
theorem dX9_vote_226 : decode cX9_vote 226 = .ok (.iconst 1, 1) := by decide +kernel
theorem dX9_vote_227 : decode cX9_vote 227 = .ok (.iadd, 1) := by decide +kernel
theorem dX9_vote_228 : decode cX9_vote 228 = .ok (.putfield 157, 3) := by decide +kernel
theorem dX9_vote_231 : decode cX9_vote 231 = .ok (.aload_n 0, 1) := by decide +kernel
theorem dX9_vote_232 : decode cX9_vote 232 = .ok (.getfield 108, 3) := by decide +kernel
theorem dX9_vote_235 : decode cX9_vote 235 = .ok (.ifCond .eq 8, 3) := by decide +kernel
theorem dX9_vote_238 : decode cX9_vote 238 = .ok (.bipush (-4), 2) := by decide +kernel
theorem dX9_vote_240 : decode cX9_vote 240 = .ok (.goto 7, 3) := by decide +kernel
theorem dX9_vote_243 : decode cX9_vote 243 = .ok (.aload_n 0, 1) := by decide +kernel
theorem dX9_vote_244 : decode cX9_vote 244 = .ok (.getfield 167, 3) := by decide +kernel
theorem dX9_vote_247 : decode cX9_vote 247 = .ok (.ireturn, 1) := by decide +kernel
theorem dX9_certify_0 : decode cX9_certify 0 = .ok (.aload_n 0, 1) := by decide +kernel
theorem dX9_certify_1 : decode cX9_certify 1 = .ok (.aload_n 0, 1) := by decide +kernel
theorem dX9_certify_2 : decode cX9_certify 2 = .ok (.getfield 72, 3) := by decide +kernel
theorem dX9_certify_5 : decode cX9_certify 5 = .ok (.ifCond .ne 7, 3) := by decide +kernel
theorem dX9_certify_8 : decode cX9_certify 8 = .ok (.iconst 1, 1) := by decide +kernel
theorem dX9_certify_9 : decode cX9_certify 9 = .ok (.goto 18, 3) := by decide +kernel
theorem dX9_certify_12 : decode cX9_certify 12 = .ok (.iload_n 3, 1) := by decide +kernel
theorem dX9_certify_13 : decode cX9_certify 13 = .ok (.iconst 0, 1) := by decide +kernel
theorem dX9_certify_14 : decode cX9_certify 14 = .ok (.bipush 15, 2) := by decide +kernel
theorem dX9_certify_16 : decode cX9_certify 16 = .ok (.invokestatic 138, 3) := by decide +kernel
theorem dX9_certify_19 : decode cX9_certify 19 = .ok (.ifCond .ne 7, 3) := by decide +kernel
theorem dX9_certify_22 : decode cX9_certify 22 = .ok (.iconst 2, 1) := by decide +kernel
theorem dX9_certify_23 : decode cX9_certify 23 = .ok (.goto 4, 3) := by decide +kernel
theorem dX9_certify_26 : decode cX9_certify 26 = .ok (.iconst 0, 1) := by decide +kernel
theorem dX9_certify_27 : decode cX9_certify 27 = .ok (.putfield 91, 3) := by decide +kernel
theorem dX9_certify_30 : decode cX9_certify 30 = .ok (.aload_n 0, 1) := by decide +kernel
theorem dX9_certify_31 : decode cX9_certify 31 = .ok (.getfield 91, 3) := by decide +kernel
theorem dX9_certify_34 : decode cX9_certify 34 = .ok (.ifCond .le 5, 3) := by decide +kernel
theorem dX9_certify_37 : decode cX9_certify 37 = .ok (.iconst 0, 1) := by decide +kernel
theorem dX9_certify_38 : decode cX9_certify 38 = .ok (.ireturn, 1) := by decide +kernel
theorem dX9_certify_39 : decode cX9_certify 39 = .ok (.aload_n 0, 1) := by decide +kernel
theorem dX9_certify_40 : decode cX9_certify 40 = .ok (.invokevirtual 300, 3) := by decide +kernel
theorem dX9_certify_43 : decode cX9_certify 43 = .ok (.aload_n 0, 1) := by decide +kernel
theorem dX9_certify_44 : decode cX9_certify 44 = .ok (.getfield 176, 3) := by decide +kernel
theorem dX9_certify_47 : decode cX9_certify 47 = .ok (.ifCond .eq 6, 3) := by decide +kernel
theorem dX9_certify_50 : decode cX9_certify 50 = .ok (.bipush (-3), 2) := by decide +kernel
theorem dX9_certify_52 : decode cX9_certify 52 = .ok (.ireturn, 1) := by decide +kernel
theorem dX9_certify_53 : decode cX9_certify 53 = .ok (.aload_n 0, 1) := by decide +kernel
theorem dX9_certify_54 : decode cX9_certify 54 = .ok (.aload_n 0, 1) := by decide +kernel
theorem dX9_certify_55 : decode cX9_certify 55 = .ok (.lload_n 1, 1) := by decide +kernel
theorem dX9_certify_56 : decode cX9_certify 56 = .ok (.invokevirtual 303, 3) := by decide +kernel
theorem dX9_certify_59 : decode cX9_certify 59 = .ok (.aload_n 0, 1) := by decide +kernel
theorem dX9_certify_60 : decode cX9_certify 60 = .ok (.getfield 167, 3) := by decide +kernel
theorem dX9_certify_63 : decode cX9_certify 63 = .ok (.invokevirtual 228, 3) := by decide +kernel
theorem dX9_certify_66 : decode cX9_certify 66 = .ok (.istore 4, 2) := by decide +kernel
theorem dX9_certify_68 : decode cX9_certify 68 = .ok (.iload 4, 2) := by decide +kernel
theorem dX9_certify_70 : decode cX9_certify 70 = .ok (.iconst (-1), 1) := by decide +kernel
theorem dX9_certify_71 : decode cX9_certify 71 = .ok (.if_icmp .ne 6, 3) := by decide +kernel
theorem dX9_certify_74 : decode cX9_certify 74 = .ok (.bipush (-6), 2) := by decide +kernel
theorem dX9_certify_76 : decode cX9_certify 76 = .ok (.ireturn, 1) := by decide +kernel
theorem dX9_certify_77 : decode cX9_certify 77 = .ok (.iload_n 3, 1) := by decide +kernel
theorem dX9_certify_78 : decode cX9_certify 78 = .ok (.iconst 1, 1) := by decide +kernel
theorem dX9_certify_79 : decode cX9_certify 79 = .ok (.iand, 1) := by decide +kernel
theorem dX9_certify_80 : decode cX9_certify 80 = .ok (.iload_n 3, 1) := by decide +kernel
theorem dX9_certify_81 : decode cX9_certify 81 = .ok (.iconst 1, 1) := by decide +kernel
theorem dX9_certify_82 : decode cX9_certify 82 = .ok (.ishr, 1) := by decide +kernel
theorem dX9_certify_83 : decode cX9_certify 83 = .ok (.iconst 1, 1) := by decide +kernel
theorem dX9_certify_84 : decode cX9_certify 84 = .ok (.iand, 1) := by decide +kernel
theorem dX9_certify_85 : decode cX9_certify 85 = .ok (.iadd, 1) := by decide +kernel
theorem dX9_certify_86 : decode cX9_certify 86 = .ok (.iload_n 3, 1) := by decide +kernel
theorem dX9_certify_87 : decode cX9_certify 87 = .ok (.iconst 2, 1) := by decide +kernel
theorem dX9_certify_88 : decode cX9_certify 88 = .ok (.ishr, 1) := by decide +kernel
theorem dX9_certify_89 : decode cX9_certify 89 = .ok (.iconst 1, 1) := by decide +kernel
theorem dX9_certify_90 : decode cX9_certify 90 = .ok (.iand, 1) := by decide +kernel
theorem dX9_certify_91 : decode cX9_certify 91 = .ok (.iadd, 1) := by decide +kernel
theorem dX9_certify_92 : decode cX9_certify 92 = .ok (.iload_n 3, 1) := by decide +kernel
theorem dX9_certify_93 : decode cX9_certify 93 = .ok (.iconst 3, 1) := by decide +kernel
theorem dX9_certify_94 : decode cX9_certify 94 = .ok (.ishr, 1) := by decide +kernel
theorem dX9_certify_95 : decode cX9_certify 95 = .ok (.iconst 1, 1) := by decide +kernel
theorem dX9_certify_96 : decode cX9_certify 96 = .ok (.iand, 1) := by decide +kernel
theorem dX9_certify_97 : decode cX9_certify 97 = .ok (.iadd, 1) := by decide +kernel
theorem dX9_certify_98 : decode cX9_certify 98 = .ok (.istore 5, 2) := by decide +kernel
theorem dX9_certify_100 : decode cX9_certify 100 = .ok (.iload 5, 2) := by decide +kernel
theorem dX9_certify_102 : decode cX9_certify 102 = .ok (.iconst 3, 1) := by decide +kernel
theorem dX9_certify_103 : decode cX9_certify 103 = .ok (.if_icmp .ge 6, 3) := by decide +kernel
theorem dX9_certify_106 : decode cX9_certify 106 = .ok (.bipush (-8), 2) := by decide +kernel
theorem dX9_certify_108 : decode cX9_certify 108 = .ok (.ireturn, 1) := by decide +kernel
theorem dX9_certify_109 : decode cX9_certify 109 = .ok (.aload_n 0, 1) := by decide +kernel
theorem dX9_certify_110 : decode cX9_certify 110 = .ok (.getfield 182, 3) := by decide +kernel
theorem dX9_certify_113 : decode cX9_certify 113 = .ok (.iconst 1, 1) := by decide +kernel
theorem dX9_certify_114 : decode cX9_certify 114 = .ok (.iadd, 1) := by decide +kernel
theorem dX9_certify_115 : decode cX9_certify 115 = .ok (.istore 6, 2) := by decide +kernel
theorem dX9_certify_117 : decode cX9_certify 117 = .ok (.iload 6, 2) := by decide +kernel
theorem dX9_certify_119 : decode cX9_certify 119 = .ok (.aload_n 0, 1) := by decide +kernel
theorem dX9_certify_120 : decode cX9_certify 120 = .ok (.getfield 192, 3) := by decide +kernel
theorem dX9_certify_123 : decode cX9_certify 123 = .ok (.if_icmp .gt 29, 3) := by decide +kernel
theorem dX9_certify_126 : decode cX9_certify 126 = .ok (.aload_n 0, 1) := by decide +kernel
theorem dX9_certify_127 : decode cX9_certify 127 = .ok (.getfield 37, 3) := by decide +kernel
theorem dX9_certify_130 : decode cX9_certify 130 = .ok (.iload 6, 2) := by decide +kernel
theorem dX9_certify_132 : decode cX9_certify 132 = .ok (.aload_n 0, 1) := by decide +kernel
theorem dX9_certify_133 : decode cX9_certify 133 = .ok (.getfield 182, 3) := by decide +kernel
theorem dX9_certify_136 : decode cX9_certify 136 = .ok (.isub, 1) := by decide +kernel
theorem dX9_certify_137 : decode cX9_certify 137 = .ok (.iaload, 1) := by decide +kernel
theorem dX9_certify_138 : decode cX9_certify 138 = .ok (.iload 4, 2) := by decide +kernel
theorem dX9_certify_140 : decode cX9_certify 140 = .ok (.if_icmp .ne 6, 3) := by decide +kernel
theorem dX9_certify_143 : decode cX9_certify 143 = .ok (.iload 6, 2) := by decide +kernel
theorem dX9_certify_145 : decode cX9_certify 145 = .ok (.ireturn, 1) := by decide +kernel
theorem dX9_certify_146 : decode cX9_certify 146 = .ok (.iinc 6 1, 3) := by decide +kernel
theorem dX9_certify_149 : decode cX9_certify 149 = .ok (.goto (-32), 3) := by decide +kernel
theorem dX9_certify_152 : decode cX9_certify 152 = .ok (.aload_n 0, 1) := by decide +kernel
theorem dX9_certify_153 : decode cX9_certify 153 = .ok (.iload 4, 2) := by decide +kernel
theorem dX9_certify_155 : decode cX9_certify 155 = .ok (.invokevirtual 232, 3) := by decide +kernel
theorem dX9_certify_158 : decode cX9_certify 158 = .ok (.ifCond .ne 6, 3) := by decide +kernel
theorem dX9_certify_161 : decode cX9_certify 161 = .ok (.bipush (-9), 2) := by decide +kernel
theorem dX9_certify_163 : decode cX9_certify 163 = .ok (.ireturn, 1) := by decide +kernel
theorem dX9_certify_164 : decode cX9_certify 164 = .ok (.aload_n 0, 1) := by decide +kernel
theorem dX9_certify_165 : decode cX9_certify 165 = .ok (.getfield 167, 3) := by decide +kernel
theorem dX9_certify_168 : decode cX9_certify 168 = .ok (.sipush 128, 3) := by decide +kernel
theorem dX9_certify_171 : decode cX9_certify 171 = .ok (.if_icmp .ne 6, 3) := by decide +kernel
theorem dX9_certify_174 : decode cX9_certify 174 = .ok (.bipush (-2), 2) := by decide +kernel
theorem dX9_certify_176 : decode cX9_certify 176 = .ok (.ireturn, 1) := by decide +kernel
theorem dX9_certify_177 : decode cX9_certify 177 = .ok (.aload_n 0, 1) := by decide +kernel
theorem dX9_certify_178 : decode cX9_certify 178 = .ok (.iload 4, 2) := by decide +kernel
theorem dX9_certify_180 : decode cX9_certify 180 = .ok (.invokevirtual 205, 3) := by decide +kernel
theorem dX9_certify_183 : decode cX9_certify 183 = .ok (.istore 6, 2) := by decide +kernel
theorem dX9_certify_185 : decode cX9_certify 185 = .ok (.aload_n 0, 1) := by decide +kernel
theorem dX9_certify_186 : decode cX9_certify 186 = .ok (.iconst 4, 1) := by decide +kernel

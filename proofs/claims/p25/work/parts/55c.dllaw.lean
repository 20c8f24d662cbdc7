theorem dL_law_0 : decode cL_law 0 = .ok (.new 10, 3) := by decide +kernel
theorem dL_law_3 : decode cL_law 3 = .ok (.dup, 1) := by decide +kernel
theorem dL_law_4 : decode cL_law 4 = .ok (.invokespecial 149, 3) := by decide +kernel
theorem dL_law_7 : decode cL_law 7 = .ok (.astore_n 1, 1) := by decide +kernel
theorem dL_law_8 : decode cL_law 8 = .ok (.iconst 1, 1) := by decide +kernel
theorem dL_law_9 : decode cL_law 9 = .ok (.newarray .int, 2) := by decide +kernel
theorem dL_law_11 : decode cL_law 11 = .ok (.astore_n 2, 1) := by decide +kernel
theorem dL_law_12 : decode cL_law 12 = .ok (.bipush 40, 2) := by decide +kernel
theorem dL_law_14 : decode cL_law 14 = .ok (.newarray .int, 2) := by decide +kernel
theorem dL_law_16 : decode cL_law 16 = .ok (.astore_n 3, 1) := by decide +kernel
theorem dL_law_17 : decode cL_law 17 = .ok (.bipush 40, 2) := by decide +kernel
theorem dL_law_19 : decode cL_law 19 = .ok (.newarray .int, 2) := by decide +kernel
theorem dL_law_21 : decode cL_law 21 = .ok (.astore 4, 2) := by decide +kernel
theorem dL_law_23 : decode cL_law 23 = .ok (.bipush 40, 2) := by decide +kernel
theorem dL_law_25 : decode cL_law 25 = .ok (.newarray .int, 2) := by decide +kernel
theorem dL_law_27 : decode cL_law 27 = .ok (.astore 5, 2) := by decide +kernel
theorem dL_law_29 : decode cL_law 29 = .ok (.bipush 60, 2) := by decide +kernel
theorem dL_law_31 : decode cL_law 31 = .ok (.newarray .int, 2) := by decide +kernel
theorem dL_law_33 : decode cL_law 33 = .ok (.astore 6, 2) := by decide +kernel
theorem dL_law_35 : decode cL_law 35 = .ok (.bipush 10, 2) := by decide +kernel
theorem dL_law_37 : decode cL_law 37 = .ok (.newarray .int, 2) := by decide +kernel
theorem dL_law_39 : decode cL_law 39 = .ok (.astore 7, 2) := by decide +kernel
theorem dL_law_41 : decode cL_law 41 = .ok (.bipush 10, 2) := by decide +kernel
theorem dL_law_43 : decode cL_law 43 = .ok (.newarray .int, 2) := by decide +kernel
theorem dL_law_45 : decode cL_law 45 = .ok (.astore 8, 2) := by decide +kernel
theorem dL_law_47 : decode cL_law 47 = .ok (.bipush 10, 2) := by decide +kernel
theorem dL_law_49 : decode cL_law 49 = .ok (.newarray .int, 2) := by decide +kernel
theorem dL_law_51 : decode cL_law 51 = .ok (.astore 9, 2) := by decide +kernel
theorem dL_law_53 : decode cL_law 53 = .ok (.iconst 0, 1) := by decide +kernel
theorem dL_law_54 : decode cL_law 54 = .ok (.istore 10, 2) := by decide +kernel
theorem dL_law_56 : decode cL_law 56 = .ok (.iload 10, 2) := by decide +kernel
theorem dL_law_58 : decode cL_law 58 = .ok (.bipush 10, 2) := by decide +kernel
theorem dL_law_60 : decode cL_law 60 = .ok (.if_icmp .ge 33, 3) := by decide +kernel
theorem dL_law_63 : decode cL_law 63 = .ok (.aload 7, 2) := by decide +kernel
theorem dL_law_65 : decode cL_law 65 = .ok (.iload 10, 2) := by decide +kernel
theorem dL_law_67 : decode cL_law 67 = .ok (.sipush 1000, 3) := by decide +kernel
theorem dL_law_70 : decode cL_law 70 = .ok (.iastore, 1) := by decide +kernel
theorem dL_law_71 : decode cL_law 71 = .ok (.aload 8, 2) := by decide +kernel
theorem dL_law_73 : decode cL_law 73 = .ok (.iload 10, 2) := by decide +kernel
theorem dL_law_75 : decode cL_law 75 = .ok (.sipush 200, 3) := by decide +kernel
theorem dL_law_78 : decode cL_law 78 = .ok (.iastore, 1) := by decide +kernel
theorem dL_law_79 : decode cL_law 79 = .ok (.aload 9, 2) := by decide +kernel
theorem dL_law_81 : decode cL_law 81 = .ok (.iload 10, 2) := by decide +kernel
theorem dL_law_83 : decode cL_law 83 = .ok (.sipush 300, 3) := by decide +kernel
theorem dL_law_86 : decode cL_law 86 = .ok (.iastore, 1) := by decide +kernel
theorem dL_law_87 : decode cL_law 87 = .ok (.iinc 10 1, 3) := by decide +kernel
theorem dL_law_90 : decode cL_law 90 = .ok (.goto (-34), 3) := by decide +kernel
theorem dL_law_93 : decode cL_law 93 = .ok (.aload_n 1, 1) := by decide +kernel
theorem dL_law_94 : decode cL_law 94 = .ok (.iconst 0, 1) := by decide +kernel
theorem dL_law_95 : decode cL_law 95 = .ok (.aload_n 3, 1) := by decide +kernel
theorem dL_law_96 : decode cL_law 96 = .ok (.aload 5, 2) := by decide +kernel
theorem dL_law_98 : decode cL_law 98 = .ok (.invokestatic 150, 3) := by decide +kernel
theorem dL_law_101 : decode cL_law 101 = .ok (.ifCond .eq 25, 3) := by decide +kernel
theorem dL_law_104 : decode cL_law 104 = .ok (.aload_n 1, 1) := by decide +kernel
theorem dL_law_105 : decode cL_law 105 = .ok (.iconst 1, 1) := by decide +kernel
theorem dL_law_106 : decode cL_law 106 = .ok (.aload_n 3, 1) := by decide +kernel
theorem dL_law_107 : decode cL_law 107 = .ok (.aload 5, 2) := by decide +kernel
theorem dL_law_109 : decode cL_law 109 = .ok (.invokestatic 150, 3) := by decide +kernel
theorem dL_law_112 : decode cL_law 112 = .ok (.ifCond .eq 14, 3) := by decide +kernel
theorem dL_law_115 : decode cL_law 115 = .ok (.aload_n 1, 1) := by decide +kernel
theorem dL_law_116 : decode cL_law 116 = .ok (.invokestatic 137, 3) := by decide +kernel
theorem dL_law_119 : decode cL_law 119 = .ok (.ifCond .ne 7, 3) := by decide +kernel
theorem dL_law_122 : decode cL_law 122 = .ok (.iconst 1, 1) := by decide +kernel
theorem dL_law_123 : decode cL_law 123 = .ok (.goto 4, 3) := by decide +kernel
theorem dL_law_126 : decode cL_law 126 = .ok (.iconst 0, 1) := by decide +kernel
theorem dL_law_127 : decode cL_law 127 = .ok (.istore 10, 2) := by decide +kernel
theorem dL_law_129 : decode cL_law 129 = .ok (.iconst 0, 1) := by decide +kernel
theorem dL_law_130 : decode cL_law 130 = .ok (.istore 11, 2) := by decide +kernel
theorem dL_law_132 : decode cL_law 132 = .ok (.iload 11, 2) := by decide +kernel
theorem dL_law_134 : decode cL_law 134 = .ok (.bipush 120, 2) := by decide +kernel
theorem dL_law_136 : decode cL_law 136 = .ok (.if_icmp .ge 916, 3) := by decide +kernel
theorem dL_law_139 : decode cL_law 139 = .ok (.iload 10, 2) := by decide +kernel
theorem dL_law_141 : decode cL_law 141 = .ok (.ifCond .eq 911, 3) := by decide +kernel
theorem dL_law_144 : decode cL_law 144 = .ok (.aload_n 0, 1) := by decide +kernel
theorem dL_law_145 : decode cL_law 145 = .ok (.iload 11, 2) := by decide +kernel
theorem dL_law_147 : decode cL_law 147 = .ok (.invokestatic 154, 3) := by decide +kernel
theorem dL_law_150 : decode cL_law 150 = .ok (.istore 12, 2) := by decide +kernel
theorem dL_law_152 : decode cL_law 152 = .ok (.iload 12, 2) := by decide +kernel
theorem dL_law_154 : decode cL_law 154 = .ok (.bipush 32, 2) := by decide +kernel
theorem dL_law_156 : decode cL_law 156 = .ok (.idiv, 1) := by decide +kernel
theorem dL_law_157 : decode cL_law 157 = .ok (.istore 13, 2) := by decide +kernel
theorem dL_law_159 : decode cL_law 159 = .ok (.iload 12, 2) := by decide +kernel
theorem dL_law_161 : decode cL_law 161 = .ok (.bipush 32, 2) := by decide +kernel
theorem dL_law_163 : decode cL_law 163 = .ok (.irem, 1) := by decide +kernel
theorem dL_law_164 : decode cL_law 164 = .ok (.istore 14, 2) := by decide +kernel
theorem dL_law_166 : decode cL_law 166 = .ok (.aload_n 1, 1) := by decide +kernel
theorem dL_law_167 : decode cL_law 167 = .ok (.invokevirtual 98, 3) := by decide +kernel
theorem dL_law_170 : decode cL_law 170 = .ok (.bipush 10, 2) := by decide +kernel
theorem dL_law_172 : decode cL_law 172 = .ok (.if_icmp .ge 10, 3) := by decide +kernel
theorem dL_law_175 : decode cL_law 175 = .ok (.aload_n 1, 1) := by decide +kernel
theorem dL_law_176 : decode cL_law 176 = .ok (.invokevirtual 98, 3) := by decide +kernel
theorem dL_law_179 : decode cL_law 179 = .ok (.goto 5, 3) := by decide +kernel
theorem dL_law_182 : decode cL_law 182 = .ok (.bipush 10, 2) := by decide +kernel
theorem dL_law_184 : decode cL_law 184 = .ok (.istore 15, 2) := by decide +kernel
theorem dL_law_186 : decode cL_law 186 = .ok (.iload 15, 2) := by decide +kernel
theorem dL_law_188 : decode cL_law 188 = .ok (.ifCond .ne 7, 3) := by decide +kernel
theorem dL_law_191 : decode cL_law 191 = .ok (.iconst 0, 1) := by decide +kernel
theorem dL_law_192 : decode cL_law 192 = .ok (.goto 8, 3) := by decide +kernel
theorem dL_law_195 : decode cL_law 195 = .ok (.iload 13, 2) := by decide +kernel
theorem dL_law_197 : decode cL_law 197 = .ok (.iload 15, 2) := by decide +kernel
theorem dL_law_199 : decode cL_law 199 = .ok (.irem, 1) := by decide +kernel
theorem dL_law_200 : decode cL_law 200 = .ok (.istore 16, 2) := by decide +kernel
theorem dL_law_202 : decode cL_law 202 = .ok (.iload 13, 2) := by decide +kernel
theorem dL_law_204 : decode cL_law 204 = .ok (.bipush 10, 2) := by decide +kernel
theorem dL_law_206 : decode cL_law 206 = .ok (.idiv, 1) := by decide +kernel
theorem dL_law_207 : decode cL_law 207 = .ok (.bipush 10, 2) := by decide +kernel
theorem dL_law_209 : decode cL_law 209 = .ok (.irem, 1) := by decide +kernel
theorem dL_law_210 : decode cL_law 210 = .ok (.istore 17, 2) := by decide +kernel
theorem dL_law_212 : decode cL_law 212 = .ok (.iload 15, 2) := by decide +kernel
theorem dL_law_214 : decode cL_law 214 = .ok (.ifCond .eq 16, 3) := by decide +kernel
theorem dL_law_217 : decode cL_law 217 = .ok (.iload 14, 2) := by decide +kernel
theorem dL_law_219 : decode cL_law 219 = .ok (.iconst 2, 1) := by decide +kernel
theorem dL_law_220 : decode cL_law 220 = .ok (.if_icmp .ge 77, 3) := by decide +kernel
theorem dL_law_223 : decode cL_law 223 = .ok (.iload 15, 2) := by decide +kernel
theorem dL_law_225 : decode cL_law 225 = .ok (.bipush 10, 2) := by decide +kernel
theorem dL_law_227 : decode cL_law 227 = .ok (.if_icmp .ge 70, 3) := by decide +kernel
theorem dL_law_230 : decode cL_law 230 = .ok (.aload_n 1, 1) := by decide +kernel
theorem dL_law_231 : decode cL_law 231 = .ok (.invokevirtual 98, 3) := by decide +kernel
theorem dL_law_234 : decode cL_law 234 = .ok (.istore 18, 2) := by decide +kernel
theorem dL_law_236 : decode cL_law 236 = .ok (.aload_n 3, 1) := by decide +kernel
theorem dL_law_237 : decode cL_law 237 = .ok (.iload 18, 2) := by decide +kernel
theorem dL_law_239 : decode cL_law 239 = .ok (.iconst (-1), 1) := by decide +kernel
theorem dL_law_240 : decode cL_law 240 = .ok (.iastore, 1) := by decide +kernel
theorem dL_law_241 : decode cL_law 241 = .ok (.aload 4, 2) := by decide +kernel
theorem dL_law_243 : decode cL_law 243 = .ok (.iload 18, 2) := by decide +kernel
theorem dL_law_245 : decode cL_law 245 = .ok (.iload 13, 2) := by decide +kernel
theorem dL_law_247 : decode cL_law 247 = .ok (.iconst 3, 1) := by decide +kernel
theorem dL_law_248 : decode cL_law 248 = .ok (.irem, 1) := by decide +kernel
theorem dL_law_249 : decode cL_law 249 = .ok (.iastore, 1) := by decide +kernel
theorem dL_law_250 : decode cL_law 250 = .ok (.aload_n 1, 1) := by decide +kernel
theorem dL_law_251 : decode cL_law 251 = .ok (.iconst 2, 1) := by decide +kernel
theorem dL_law_252 : decode cL_law 252 = .ok (.iload 13, 2) := by decide +kernel
theorem dL_law_254 : decode cL_law 254 = .ok (.iconst 3, 1) := by decide +kernel
theorem dL_law_255 : decode cL_law 255 = .ok (.irem, 1) := by decide +kernel
theorem dL_law_256 : decode cL_law 256 = .ok (.iconst 0, 1) := by decide +kernel
theorem dL_law_257 : decode cL_law 257 = .ok (.iconst 0, 1) := by decide +kernel
theorem dL_law_258 : decode cL_law 258 = .ok (.iconst 0, 1) := by decide +kernel
theorem dL_law_259 : decode cL_law 259 = .ok (.invokestatic 123, 3) := by decide +kernel
theorem dL_law_262 : decode cL_law 262 = .ok (.iload 18, 2) := by decide +kernel
theorem dL_law_264 : decode cL_law 264 = .ok (.if_icmp .ne 27, 3) := by decide +kernel
theorem dL_law_267 : decode cL_law 267 = .ok (.aload_n 1, 1) := by decide +kernel
theorem dL_law_268 : decode cL_law 268 = .ok (.iload 18, 2) := by decide +kernel
theorem dL_law_270 : decode cL_law 270 = .ok (.invokevirtual 55, 3) := by decide +kernel
theorem dL_law_273 : decode cL_law 273 = .ok (.ifCond .ne 18, 3) := by decide +kernel
theorem dL_law_276 : decode cL_law 276 = .ok (.aload_n 1, 1) := by decide +kernel
theorem dL_law_277 : decode cL_law 277 = .ok (.iload 18, 2) := by decide +kernel
theorem dL_law_279 : decode cL_law 279 = .ok (.invokevirtual 64, 3) := by decide +kernel
theorem dL_law_282 : decode cL_law 282 = .ok (.iload 18, 2) := by decide +kernel
theorem dL_law_284 : decode cL_law 284 = .ok (.if_icmp .ne 7, 3) := by decide +kernel
theorem dL_law_287 : decode cL_law 287 = .ok (.iconst 1, 1) := by decide +kernel
theorem dL_law_288 : decode cL_law 288 = .ok (.goto 4, 3) := by decide +kernel
theorem dL_law_291 : decode cL_law 291 = .ok (.iconst 0, 1) := by decide +kernel
theorem dL_law_292 : decode cL_law 292 = .ok (.istore 10, 2) := by decide +kernel
theorem dL_law_294 : decode cL_law 294 = .ok (.goto 658, 3) := by decide +kernel
theorem dL_law_297 : decode cL_law 297 = .ok (.iload 14, 2) := by decide +kernel
theorem dL_law_299 : decode cL_law 299 = .ok (.iconst 4, 1) := by decide +kernel
theorem dL_law_300 : decode cL_law 300 = .ok (.if_icmp .ge 129, 3) := by decide +kernel
theorem dL_law_303 : decode cL_law 303 = .ok (.aload 7, 2) := by decide +kernel
theorem dL_law_305 : decode cL_law 305 = .ok (.iload 17, 2) := by decide +kernel
theorem dL_law_307 : decode cL_law 307 = .ok (.iaload, 1) := by decide +kernel
theorem dL_law_308 : decode cL_law 308 = .ok (.istore 18, 2) := by decide +kernel
theorem dL_law_310 : decode cL_law 310 = .ok (.aload 7, 2) := by decide +kernel
theorem dL_law_312 : decode cL_law 312 = .ok (.iload 17, 2) := by decide +kernel
theorem dL_law_314 : decode cL_law 314 = .ok (.iconst 1, 1) := by decide +kernel
theorem dL_law_315 : decode cL_law 315 = .ok (.iload 13, 2) := by decide +kernel
theorem dL_law_317 : decode cL_law 317 = .ok (.bipush 100, 2) := by decide +kernel
theorem dL_law_319 : decode cL_law 319 = .ok (.idiv, 1) := by decide +kernel
theorem dL_law_320 : decode cL_law 320 = .ok (.iload 13, 2) := by decide +kernel
theorem dL_law_322 : decode cL_law 322 = .ok (.iconst 3, 1) := by decide +kernel
theorem dL_law_323 : decode cL_law 323 = .ok (.irem, 1) := by decide +kernel
theorem dL_law_324 : decode cL_law 324 = .ok (.ifCond .ne 8, 3) := by decide +kernel
theorem dL_law_327 : decode cL_law 327 = .ok (.ldc 148, 2) := by decide +kernel
theorem dL_law_329 : decode cL_law 329 = .ok (.goto 6, 3) := by decide +kernel
theorem dL_law_332 : decode cL_law 332 = .ok (.sipush 4000, 3) := by decide +kernel
theorem dL_law_335 : decode cL_law 335 = .ok (.irem, 1) := by decide +kernel
theorem dL_law_336 : decode cL_law 336 = .ok (.iadd, 1) := by decide +kernel
theorem dL_law_337 : decode cL_law 337 = .ok (.iastore, 1) := by decide +kernel
theorem dL_law_338 : decode cL_law 338 = .ok (.aload 8, 2) := by decide +kernel
theorem dL_law_340 : decode cL_law 340 = .ok (.iload 17, 2) := by decide +kernel
theorem dL_law_342 : decode cL_law 342 = .ok (.iload 13, 2) := by decide +kernel
theorem dL_law_344 : decode cL_law 344 = .ok (.sipush 300, 3) := by decide +kernel
theorem dL_law_347 : decode cL_law 347 = .ok (.idiv, 1) := by decide +kernel
theorem dL_law_348 : decode cL_law 348 = .ok (.iload 13, 2) := by decide +kernel
theorem dL_law_350 : decode cL_law 350 = .ok (.bipush 7, 2) := by decide +kernel
theorem dL_law_352 : decode cL_law 352 = .ok (.irem, 1) := by decide +kernel
theorem dL_law_353 : decode cL_law 353 = .ok (.ifCond .ne 8, 3) := by decide +kernel
theorem dL_law_356 : decode cL_law 356 = .ok (.ldc 127, 2) := by decide +kernel
theorem dL_law_358 : decode cL_law 358 = .ok (.goto 6, 3) := by decide +kernel
theorem dL_law_361 : decode cL_law 361 = .ok (.sipush 2500, 3) := by decide +kernel
theorem dL_law_364 : decode cL_law 364 = .ok (.irem, 1) := by decide +kernel
theorem dL_law_365 : decode cL_law 365 = .ok (.iastore, 1) := by decide +kernel
theorem dL_law_366 : decode cL_law 366 = .ok (.aload 9, 2) := by decide +kernel
theorem dL_law_368 : decode cL_law 368 = .ok (.iload 17, 2) := by decide +kernel
theorem dL_law_370 : decode cL_law 370 = .ok (.iload 13, 2) := by decide +kernel
theorem dL_law_372 : decode cL_law 372 = .ok (.bipush 50, 2) := by decide +kernel
theorem dL_law_374 : decode cL_law 374 = .ok (.idiv, 1) := by decide +kernel
theorem dL_law_375 : decode cL_law 375 = .ok (.iload 13, 2) := by decide +kernel
theorem dL_law_377 : decode cL_law 377 = .ok (.iconst 5, 1) := by decide +kernel
theorem dL_law_378 : decode cL_law 378 = .ok (.irem, 1) := by decide +kernel
theorem dL_law_379 : decode cL_law 379 = .ok (.ifCond .ne 8, 3) := by decide +kernel
theorem dL_law_382 : decode cL_law 382 = .ok (.ldc 127, 2) := by decide +kernel
theorem dL_law_384 : decode cL_law 384 = .ok (.goto 6, 3) := by decide +kernel
theorem dL_law_387 : decode cL_law 387 = .ok (.sipush 3000, 3) := by decide +kernel
theorem dL_law_390 : decode cL_law 390 = .ok (.irem, 1) := by decide +kernel
theorem dL_law_391 : decode cL_law 391 = .ok (.iastore, 1) := by decide +kernel
theorem dL_law_392 : decode cL_law 392 = .ok (.aload_n 1, 1) := by decide +kernel
theorem dL_law_393 : decode cL_law 393 = .ok (.iconst 0, 1) := by decide +kernel
theorem dL_law_394 : decode cL_law 394 = .ok (.iload 17, 2) := by decide +kernel
theorem dL_law_396 : decode cL_law 396 = .ok (.aload 7, 2) := by decide +kernel
theorem dL_law_398 : decode cL_law 398 = .ok (.iload 17, 2) := by decide +kernel
theorem dL_law_400 : decode cL_law 400 = .ok (.iaload, 1) := by decide +kernel
theorem dL_law_401 : decode cL_law 401 = .ok (.aload 8, 2) := by decide +kernel
theorem dL_law_403 : decode cL_law 403 = .ok (.iload 17, 2) := by decide +kernel
theorem dL_law_405 : decode cL_law 405 = .ok (.iaload, 1) := by decide +kernel
theorem dL_law_406 : decode cL_law 406 = .ok (.aload 9, 2) := by decide +kernel
theorem dL_law_408 : decode cL_law 408 = .ok (.iload 17, 2) := by decide +kernel
theorem dL_law_410 : decode cL_law 410 = .ok (.iaload, 1) := by decide +kernel
theorem dL_law_411 : decode cL_law 411 = .ok (.invokestatic 123, 3) := by decide +kernel
theorem dL_law_414 : decode cL_law 414 = .ok (.iload 18, 2) := by decide +kernel
theorem dL_law_416 : decode cL_law 416 = .ok (.if_icmp .ne 7, 3) := by decide +kernel
theorem dL_law_419 : decode cL_law 419 = .ok (.iconst 1, 1) := by decide +kernel
theorem dL_law_420 : decode cL_law 420 = .ok (.goto 4, 3) := by decide +kernel
theorem dL_law_423 : decode cL_law 423 = .ok (.iconst 0, 1) := by decide +kernel
theorem dL_law_424 : decode cL_law 424 = .ok (.istore 10, 2) := by decide +kernel
theorem dL_law_426 : decode cL_law 426 = .ok (.goto 526, 3) := by decide +kernel
theorem dL_law_429 : decode cL_law 429 = .ok (.iload 14, 2) := by decide +kernel
theorem dL_law_431 : decode cL_law 431 = .ok (.bipush 7, 2) := by decide +kernel
theorem dL_law_433 : decode cL_law 433 = .ok (.if_icmp .ge 35, 3) := by decide +kernel
theorem dL_law_436 : decode cL_law 436 = .ok (.aload_n 1, 1) := by decide +kernel
theorem dL_law_437 : decode cL_law 437 = .ok (.aload_n 2, 1) := by decide +kernel
theorem dL_law_438 : decode cL_law 438 = .ok (.iconst 1, 1) := by decide +kernel
theorem dL_law_439 : decode cL_law 439 = .ok (.iload 13, 2) := by decide +kernel
theorem dL_law_441 : decode cL_law 441 = .ok (.iload 13, 2) := by decide +kernel
theorem dL_law_443 : decode cL_law 443 = .ok (.bipush 9, 2) := by decide +kernel
theorem dL_law_445 : decode cL_law 445 = .ok (.irem, 1) := by decide +kernel
theorem dL_law_446 : decode cL_law 446 = .ok (.ifCond .ne 8, 3) := by decide +kernel
theorem dL_law_449 : decode cL_law 449 = .ok (.bipush 100, 2) := by decide +kernel
theorem dL_law_451 : decode cL_law 451 = .ok (.goto 5, 3) := by decide +kernel
theorem dL_law_454 : decode cL_law 454 = .ok (.bipush 8, 2) := by decide +kernel
theorem dL_law_456 : decode cL_law 456 = .ok (.irem, 1) := by decide +kernel
theorem dL_law_457 : decode cL_law 457 = .ok (.iadd, 1) := by decide +kernel
theorem dL_law_458 : decode cL_law 458 = .ok (.aload 5, 2) := by decide +kernel
theorem dL_law_460 : decode cL_law 460 = .ok (.invokestatic 158, 3) := by decide +kernel
theorem dL_law_463 : decode cL_law 463 = .ok (.istore 10, 2) := by decide +kernel
theorem dL_law_465 : decode cL_law 465 = .ok (.goto 487, 3) := by decide +kernel
theorem dL_law_468 : decode cL_law 468 = .ok (.iload 14, 2) := by decide +kernel
theorem dL_law_470 : decode cL_law 470 = .ok (.bipush 13, 2) := by decide +kernel
theorem dL_law_472 : decode cL_law 472 = .ok (.if_icmp .ge 92, 3) := by decide +kernel
theorem dL_law_475 : decode cL_law 475 = .ok (.aload_n 3, 1) := by decide +kernel
theorem dL_law_476 : decode cL_law 476 = .ok (.iload 16, 2) := by decide +kernel
theorem dL_law_478 : decode cL_law 478 = .ok (.iaload, 1) := by decide +kernel
theorem dL_law_479 : decode cL_law 479 = .ok (.ifCond .ge 13, 3) := by decide +kernel
theorem dL_law_482 : decode cL_law 482 = .ok (.aload 5, 2) := by decide +kernel
theorem dL_law_484 : decode cL_law 484 = .ok (.iload 16, 2) := by decide +kernel
theorem dL_law_486 : decode cL_law 486 = .ok (.iaload, 1) := by decide +kernel
theorem dL_law_487 : decode cL_law 487 = .ok (.bipush 6, 2) := by decide +kernel
theorem dL_law_489 : decode cL_law 489 = .ok (.if_icmp .ne 8, 3) := by decide +kernel
theorem dL_law_492 : decode cL_law 492 = .ok (.ldc 44, 2) := by decide +kernel
theorem dL_law_494 : decode cL_law 494 = .ok (.goto 8, 3) := by decide +kernel
theorem dL_law_497 : decode cL_law 497 = .ok (.aload 5, 2) := by decide +kernel
theorem dL_law_499 : decode cL_law 499 = .ok (.iload 16, 2) := by decide +kernel
theorem dL_law_501 : decode cL_law 501 = .ok (.iaload, 1) := by decide +kernel
theorem dL_law_502 : decode cL_law 502 = .ok (.istore 18, 2) := by decide +kernel
theorem dL_law_504 : decode cL_law 504 = .ok (.aload_n 1, 1) := by decide +kernel
theorem dL_law_505 : decode cL_law 505 = .ok (.iload 16, 2) := by decide +kernel
theorem dL_law_507 : decode cL_law 507 = .ok (.iload 17, 2) := by decide +kernel
theorem dL_law_509 : decode cL_law 509 = .ok (.iconst 1, 1) := by decide +kernel
theorem dL_law_510 : decode cL_law 510 = .ok (.iload 13, 2) := by decide +kernel
theorem dL_law_512 : decode cL_law 512 = .ok (.bipush 100, 2) := by decide +kernel
theorem dL_law_514 : decode cL_law 514 = .ok (.idiv, 1) := by decide +kernel
theorem dL_law_515 : decode cL_law 515 = .ok (.bipush 20, 2) := by decide +kernel
theorem dL_law_517 : decode cL_law 517 = .ok (.irem, 1) := by decide +kernel
theorem dL_law_518 : decode cL_law 518 = .ok (.iadd, 1) := by decide +kernel
theorem dL_law_519 : decode cL_law 519 = .ok (.invokestatic 132, 3) := by decide +kernel
theorem dL_law_522 : decode cL_law 522 = .ok (.iload 18, 2) := by decide +kernel
theorem dL_law_524 : decode cL_law 524 = .ok (.if_icmp .ne 7, 3) := by decide +kernel
theorem dL_law_527 : decode cL_law 527 = .ok (.iconst 1, 1) := by decide +kernel
theorem dL_law_528 : decode cL_law 528 = .ok (.goto 4, 3) := by decide +kernel
theorem dL_law_531 : decode cL_law 531 = .ok (.iconst 0, 1) := by decide +kernel
theorem dL_law_532 : decode cL_law 532 = .ok (.istore 10, 2) := by decide +kernel
theorem dL_law_534 : decode cL_law 534 = .ok (.iload 18, 2) := by decide +kernel
theorem dL_law_536 : decode cL_law 536 = .ok (.ifCond .lt 25, 3) := by decide +kernel
theorem dL_law_539 : decode cL_law 539 = .ok (.aload 6, 2) := by decide +kernel
theorem dL_law_541 : decode cL_law 541 = .ok (.bipush 6, 2) := by decide +kernel
theorem dL_law_543 : decode cL_law 543 = .ok (.iload 16, 2) := by decide +kernel
theorem dL_law_545 : decode cL_law 545 = .ok (.imul, 1) := by decide +kernel
theorem dL_law_546 : decode cL_law 546 = .ok (.iload 18, 2) := by decide +kernel
theorem dL_law_548 : decode cL_law 548 = .ok (.iadd, 1) := by decide +kernel
theorem dL_law_549 : decode cL_law 549 = .ok (.iload 17, 2) := by decide +kernel
theorem dL_law_551 : decode cL_law 551 = .ok (.iastore, 1) := by decide +kernel
theorem dL_law_552 : decode cL_law 552 = .ok (.aload 5, 2) := by decide +kernel
theorem dL_law_554 : decode cL_law 554 = .ok (.iload 16, 2) := by decide +kernel
theorem dL_law_556 : decode cL_law 556 = .ok (.dup2, 1) := by decide +kernel
theorem dL_law_557 : decode cL_law 557 = .ok (.iaload, 1) := by decide +kernel
theorem dL_law_558 : decode cL_law 558 = .ok (.iconst 1, 1) := by decide +kernel
theorem dL_law_559 : decode cL_law 559 = .ok (.iadd, 1) := by decide +kernel
theorem dL_law_560 : decode cL_law 560 = .ok (.iastore, 1) := by decide +kernel
theorem dL_law_561 : decode cL_law 561 = .ok (.goto 391, 3) := by decide +kernel
theorem dL_law_564 : decode cL_law 564 = .ok (.iload 14, 2) := by decide +kernel
theorem dL_law_566 : decode cL_law 566 = .ok (.bipush 17, 2) := by decide +kernel
theorem dL_law_568 : decode cL_law 568 = .ok (.if_icmp .ge 129, 3) := by decide +kernel
theorem dL_law_571 : decode cL_law 571 = .ok (.aload_n 3, 1) := by decide +kernel
theorem dL_law_572 : decode cL_law 572 = .ok (.iload 16, 2) := by decide +kernel
theorem dL_law_574 : decode cL_law 574 = .ok (.iaload, 1) := by decide +kernel
theorem dL_law_575 : decode cL_law 575 = .ok (.ifCond .ge 15, 3) := by decide +kernel
theorem dL_law_578 : decode cL_law 578 = .ok (.aload 5, 2) := by decide +kernel
theorem dL_law_580 : decode cL_law 580 = .ok (.iload 16, 2) := by decide +kernel
theorem dL_law_582 : decode cL_law 582 = .ok (.iaload, 1) := by decide +kernel
theorem dL_law_583 : decode cL_law 583 = .ok (.ifCond .le 7, 3) := by decide +kernel
theorem dL_law_586 : decode cL_law 586 = .ok (.iconst 1, 1) := by decide +kernel
theorem dL_law_587 : decode cL_law 587 = .ok (.goto 4, 3) := by decide +kernel
theorem dL_law_590 : decode cL_law 590 = .ok (.iconst 0, 1) := by decide +kernel
theorem dL_law_591 : decode cL_law 591 = .ok (.istore 18, 2) := by decide +kernel
theorem dL_law_593 : decode cL_law 593 = .ok (.aload_n 1, 1) := by decide +kernel
theorem dL_law_594 : decode cL_law 594 = .ok (.iload 16, 2) := by decide +kernel
theorem dL_law_596 : decode cL_law 596 = .ok (.invokestatic 134, 3) := by decide +kernel
theorem dL_law_599 : decode cL_law 599 = .ok (.istore 19, 2) := by decide +kernel
theorem dL_law_601 : decode cL_law 601 = .ok (.aload_n 3, 1) := by decide +kernel
theorem dL_law_602 : decode cL_law 602 = .ok (.iload 16, 2) := by decide +kernel
theorem dL_law_604 : decode cL_law 604 = .ok (.iload 18, 2) := by decide +kernel
theorem dL_law_606 : decode cL_law 606 = .ok (.ifCond .eq 9, 3) := by decide +kernel
theorem dL_law_609 : decode cL_law 609 = .ok (.aload_n 2, 1) := by decide +kernel
theorem dL_law_610 : decode cL_law 610 = .ok (.iconst 0, 1) := by decide +kernel
theorem dL_law_611 : decode cL_law 611 = .ok (.iaload, 1) := by decide +kernel
theorem dL_law_612 : decode cL_law 612 = .ok (.goto 7, 3) := by decide +kernel
theorem dL_law_615 : decode cL_law 615 = .ok (.aload_n 3, 1) := by decide +kernel
theorem dL_law_616 : decode cL_law 616 = .ok (.iload 16, 2) := by decide +kernel
theorem dL_law_618 : decode cL_law 618 = .ok (.iaload, 1) := by decide +kernel
theorem dL_law_619 : decode cL_law 619 = .ok (.iastore, 1) := by decide +kernel
theorem dL_law_620 : decode cL_law 620 = .ok (.iload 18, 2) := by decide +kernel
theorem dL_law_622 : decode cL_law 622 = .ok (.ifCond .eq 58, 3) := by decide +kernel
theorem dL_law_625 : decode cL_law 625 = .ok (.iload 19, 2) := by decide +kernel
theorem dL_law_627 : decode cL_law 627 = .ok (.ifCond .le 49, 3) := by decide +kernel
theorem dL_law_630 : decode cL_law 630 = .ok (.iload 19, 2) := by decide +kernel
theorem dL_law_632 : decode cL_law 632 = .ok (.aload_n 1, 1) := by decide +kernel
theorem dL_law_633 : decode cL_law 633 = .ok (.iload 16, 2) := by decide +kernel
theorem dL_law_635 : decode cL_law 635 = .ok (.invokevirtual 55, 3) := by decide +kernel
theorem dL_law_638 : decode cL_law 638 = .ok (.if_icmp .ne 38, 3) := by decide +kernel
theorem dL_law_641 : decode cL_law 641 = .ok (.iload 19, 2) := by decide +kernel
theorem dL_law_643 : decode cL_law 643 = .ok (.aload_n 1, 1) := by decide +kernel
theorem dL_law_644 : decode cL_law 644 = .ok (.iload 16, 2) := by decide +kernel
theorem dL_law_646 : decode cL_law 646 = .ok (.invokevirtual 58, 3) := by decide +kernel
theorem dL_law_649 : decode cL_law 649 = .ok (.if_icmp .ne 27, 3) := by decide +kernel
theorem dL_law_652 : decode cL_law 652 = .ok (.aload_n 1, 1) := by decide +kernel
theorem dL_law_653 : decode cL_law 653 = .ok (.iload 16, 2) := by decide +kernel
theorem dL_law_655 : decode cL_law 655 = .ok (.aload 5, 2) := by decide +kernel
theorem dL_law_657 : decode cL_law 657 = .ok (.invokestatic 162, 3) := by decide +kernel
theorem dL_law_660 : decode cL_law 660 = .ok (.ifCond .le 16, 3) := by decide +kernel
theorem dL_law_663 : decode cL_law 663 = .ok (.aload_n 1, 1) := by decide +kernel
theorem dL_law_664 : decode cL_law 664 = .ok (.iload 16, 2) := by decide +kernel
theorem dL_law_666 : decode cL_law 666 = .ok (.invokevirtual 61, 3) := by decide +kernel
theorem dL_law_669 : decode cL_law 669 = .ok (.ifCond .ne 7, 3) := by decide +kernel
theorem dL_law_672 : decode cL_law 672 = .ok (.iconst 1, 1) := by decide +kernel
theorem dL_law_673 : decode cL_law 673 = .ok (.goto 19, 3) := by decide +kernel
theorem dL_law_676 : decode cL_law 676 = .ok (.iconst 0, 1) := by decide +kernel
theorem dL_law_677 : decode cL_law 677 = .ok (.goto 15, 3) := by decide +kernel
theorem dL_law_680 : decode cL_law 680 = .ok (.iload 19, 2) := by decide +kernel
theorem dL_law_682 : decode cL_law 682 = .ok (.ldc 44, 2) := by decide +kernel
theorem dL_law_684 : decode cL_law 684 = .ok (.if_icmp .ne 7, 3) := by decide +kernel
theorem dL_law_687 : decode cL_law 687 = .ok (.iconst 1, 1) := by decide +kernel
theorem dL_law_688 : decode cL_law 688 = .ok (.goto 4, 3) := by decide +kernel
theorem dL_law_691 : decode cL_law 691 = .ok (.iconst 0, 1) := by decide +kernel
theorem dL_law_692 : decode cL_law 692 = .ok (.istore 10, 2) := by decide +kernel
theorem dL_law_694 : decode cL_law 694 = .ok (.goto 258, 3) := by decide +kernel
theorem dL_law_697 : decode cL_law 697 = .ok (.iload 14, 2) := by decide +kernel
theorem dL_law_699 : decode cL_law 699 = .ok (.bipush 29, 2) := by decide +kernel
theorem dL_law_701 : decode cL_law 701 = .ok (.if_icmp .ge 142, 3) := by decide +kernel
theorem dL_law_704 : decode cL_law 704 = .ok (.aload 5, 2) := by decide +kernel
theorem dL_law_706 : decode cL_law 706 = .ok (.iload 16, 2) := by decide +kernel
theorem dL_law_708 : decode cL_law 708 = .ok (.iaload, 1) := by decide +kernel
theorem dL_law_709 : decode cL_law 709 = .ok (.ifCond .ne 7, 3) := by decide +kernel
theorem dL_law_712 : decode cL_law 712 = .ok (.iconst 0, 1) := by decide +kernel
theorem dL_law_713 : decode cL_law 713 = .ok (.goto 14, 3) := by decide +kernel
theorem dL_law_716 : decode cL_law 716 = .ok (.iload 13, 2) := by decide +kernel
theorem dL_law_718 : decode cL_law 718 = .ok (.bipush 10, 2) := by decide +kernel
theorem dL_law_720 : decode cL_law 720 = .ok (.idiv, 1) := by decide +kernel
theorem dL_law_721 : decode cL_law 721 = .ok (.aload 5, 2) := by decide +kernel
theorem dL_law_723 : decode cL_law 723 = .ok (.iload 16, 2) := by decide +kernel
theorem dL_law_725 : decode cL_law 725 = .ok (.iaload, 1) := by decide +kernel
theorem dL_law_726 : decode cL_law 726 = .ok (.irem, 1) := by decide +kernel
theorem dL_law_727 : decode cL_law 727 = .ok (.istore 18, 2) := by decide +kernel
theorem dL_law_729 : decode cL_law 729 = .ok (.iload 14, 2) := by decide +kernel
theorem dL_law_731 : decode cL_law 731 = .ok (.bipush 25, 2) := by decide +kernel
theorem dL_law_733 : decode cL_law 733 = .ok (.if_icmp .le 16, 3) := by decide +kernel
theorem dL_law_736 : decode cL_law 736 = .ok (.aload_n 1, 1) := by decide +kernel
theorem dL_law_737 : decode cL_law 737 = .ok (.invokevirtual 98, 3) := by decide +kernel
theorem dL_law_740 : decode cL_law 740 = .ok (.bipush 10, 2) := by decide +kernel
theorem dL_law_742 : decode cL_law 742 = .ok (.if_icmp .lt 7, 3) := by decide +kernel
theorem dL_law_745 : decode cL_law 745 = .ok (.iconst 1, 1) := by decide +kernel
theorem dL_law_746 : decode cL_law 746 = .ok (.goto 4, 3) := by decide +kernel
theorem dL_law_749 : decode cL_law 749 = .ok (.iconst 0, 1) := by decide +kernel
theorem dL_law_750 : decode cL_law 750 = .ok (.istore 19, 2) := by decide +kernel
theorem dL_law_752 : decode cL_law 752 = .ok (.aload 5, 2) := by decide +kernel
theorem dL_law_754 : decode cL_law 754 = .ok (.iload 16, 2) := by decide +kernel
theorem dL_law_756 : decode cL_law 756 = .ok (.iaload, 1) := by decide +kernel
theorem dL_law_757 : decode cL_law 757 = .ok (.ifCond .ne 28, 3) := by decide +kernel
theorem dL_law_760 : decode cL_law 760 = .ok (.aload_n 1, 1) := by decide +kernel
theorem dL_law_761 : decode cL_law 761 = .ok (.iload 19, 2) := by decide +kernel
theorem dL_law_763 : decode cL_law 763 = .ok (.iload 16, 2) := by decide +kernel
theorem dL_law_765 : decode cL_law 765 = .ok (.iconst 0, 1) := by decide +kernel
theorem dL_law_766 : decode cL_law 766 = .ok (.iconst 1, 1) := by decide +kernel
theorem dL_law_767 : decode cL_law 767 = .ok (.iconst 0, 1) := by decide +kernel
theorem dL_law_768 : decode cL_law 768 = .ok (.iconst 0, 1) := by decide +kernel
theorem dL_law_769 : decode cL_law 769 = .ok (.invokestatic 128, 3) := by decide +kernel
theorem dL_law_772 : decode cL_law 772 = .ok (.ldc 51, 2) := by decide +kernel
theorem dL_law_774 : decode cL_law 774 = .ok (.if_icmp .ne 7, 3) := by decide +kernel
theorem dL_law_777 : decode cL_law 777 = .ok (.iconst 1, 1) := by decide +kernel
theorem dL_law_778 : decode cL_law 778 = .ok (.goto 60, 3) := by decide +kernel
theorem dL_law_781 : decode cL_law 781 = .ok (.iconst 0, 1) := by decide +kernel
theorem dL_law_782 : decode cL_law 782 = .ok (.goto 56, 3) := by decide +kernel
theorem dL_law_785 : decode cL_law 785 = .ok (.aload_n 1, 1) := by decide +kernel
theorem dL_law_786 : decode cL_law 786 = .ok (.iload 19, 2) := by decide +kernel
theorem dL_law_788 : decode cL_law 788 = .ok (.iload 16, 2) := by decide +kernel
theorem dL_law_790 : decode cL_law 790 = .ok (.iload 18, 2) := by decide +kernel
theorem dL_law_792 : decode cL_law 792 = .ok (.iconst 1, 1) := by decide +kernel
theorem dL_law_793 : decode cL_law 793 = .ok (.iload 13, 2) := by decide +kernel
theorem dL_law_795 : decode cL_law 795 = .ok (.bipush 60, 2) := by decide +kernel
theorem dL_law_797 : decode cL_law 797 = .ok (.idiv, 1) := by decide +kernel
theorem dL_law_798 : decode cL_law 798 = .ok (.iload 13, 2) := by decide +kernel
theorem dL_law_800 : decode cL_law 800 = .ok (.iconst 4, 1) := by decide +kernel
theorem dL_law_801 : decode cL_law 801 = .ok (.irem, 1) := by decide +kernel
theorem dL_law_802 : decode cL_law 802 = .ok (.ifCond .ne 8, 3) := by decide +kernel
theorem dL_law_805 : decode cL_law 805 = .ok (.bipush 12, 2) := by decide +kernel
theorem dL_law_807 : decode cL_law 807 = .ok (.goto 4, 3) := by decide +kernel
theorem dL_law_810 : decode cL_law 810 = .ok (.iconst 3, 1) := by decide +kernel
theorem dL_law_811 : decode cL_law 811 = .ok (.irem, 1) := by decide +kernel
theorem dL_law_812 : decode cL_law 812 = .ok (.iadd, 1) := by decide +kernel
theorem dL_law_813 : decode cL_law 813 = .ok (.iload 13, 2) := by decide +kernel
theorem dL_law_815 : decode cL_law 815 = .ok (.sipush 1000, 3) := by decide +kernel
theorem dL_law_818 : decode cL_law 818 = .ok (.idiv, 1) := by decide +kernel
theorem dL_law_819 : decode cL_law 819 = .ok (.iconst 4, 1) := by decide +kernel
theorem dL_law_820 : decode cL_law 820 = .ok (.irem, 1) := by decide +kernel
theorem dL_law_821 : decode cL_law 821 = .ok (.iload 17, 2) := by decide +kernel
theorem dL_law_823 : decode cL_law 823 = .ok (.aload_n 2, 1) := by decide +kernel
theorem dL_law_824 : decode cL_law 824 = .ok (.iconst 0, 1) := by decide +kernel
theorem dL_law_825 : decode cL_law 825 = .ok (.iaload, 1) := by decide +kernel
theorem dL_law_826 : decode cL_law 826 = .ok (.aload_n 3, 1) := by decide +kernel
theorem dL_law_827 : decode cL_law 827 = .ok (.aload 4, 2) := by decide +kernel
theorem dL_law_829 : decode cL_law 829 = .ok (.aload 5, 2) := by decide +kernel
theorem dL_law_831 : decode cL_law 831 = .ok (.aload 6, 2) := by decide +kernel
theorem dL_law_833 : decode cL_law 833 = .ok (.aload 7, 2) := by decide +kernel
theorem dL_law_835 : decode cL_law 835 = .ok (.invokestatic 166, 3) := by decide +kernel
theorem dL_law_838 : decode cL_law 838 = .ok (.istore 10, 2) := by decide +kernel
theorem dL_law_840 : decode cL_law 840 = .ok (.goto 112, 3) := by decide +kernel
theorem dL_law_843 : decode cL_law 843 = .ok (.aload_n 1, 1) := by decide +kernel
theorem dL_law_844 : decode cL_law 844 = .ok (.iload 17, 2) := by decide +kernel
theorem dL_law_846 : decode cL_law 846 = .ok (.iconst 1, 1) := by decide +kernel
theorem dL_law_847 : decode cL_law 847 = .ok (.invokevirtual 29, 3) := by decide +kernel
theorem dL_law_850 : decode cL_law 850 = .ok (.istore 18, 2) := by decide +kernel
theorem dL_law_852 : decode cL_law 852 = .ok (.aload_n 1, 1) := by decide +kernel
theorem dL_law_853 : decode cL_law 853 = .ok (.invokestatic 137, 3) := by decide +kernel
theorem dL_law_856 : decode cL_law 856 = .ok (.istore 19, 2) := by decide +kernel
theorem dL_law_858 : decode cL_law 858 = .ok (.aload_n 1, 1) := by decide +kernel
theorem dL_law_859 : decode cL_law 859 = .ok (.iload 17, 2) := by decide +kernel
theorem dL_law_861 : decode cL_law 861 = .ok (.iconst 2, 1) := by decide +kernel
theorem dL_law_862 : decode cL_law 862 = .ok (.invokevirtual 22, 3) := by decide +kernel
theorem dL_law_865 : decode cL_law 865 = .ok (.istore 20, 2) := by decide +kernel
theorem dL_law_867 : decode cL_law 867 = .ok (.aload_n 1, 1) := by decide +kernel
theorem dL_law_868 : decode cL_law 868 = .ok (.bipush 6, 2) := by decide +kernel
theorem dL_law_870 : decode cL_law 870 = .ok (.iload 17, 2) := by decide +kernel
theorem dL_law_872 : decode cL_law 872 = .ok (.iload 13, 2) := by decide +kernel
theorem dL_law_874 : decode cL_law 874 = .ok (.iconst 2, 1) := by decide +kernel
theorem dL_law_875 : decode cL_law 875 = .ok (.irem, 1) := by decide +kernel
theorem dL_law_876 : decode cL_law 876 = .ok (.iconst 0, 1) := by decide +kernel
theorem dL_law_877 : decode cL_law 877 = .ok (.iconst 0, 1) := by decide +kernel
theorem dL_law_878 : decode cL_law 878 = .ok (.invokestatic 123, 3) := by decide +kernel
theorem dL_law_881 : decode cL_law 881 = .ok (.istore 21, 2) := by decide +kernel
theorem dL_law_883 : decode cL_law 883 = .ok (.iload 18, 2) := by decide +kernel
theorem dL_law_885 : decode cL_law 885 = .ok (.ifCond .ne 18, 3) := by decide +kernel
theorem dL_law_888 : decode cL_law 888 = .ok (.iload 21, 2) := by decide +kernel
theorem dL_law_890 : decode cL_law 890 = .ok (.ldc 44, 2) := by decide +kernel
theorem dL_law_892 : decode cL_law 892 = .ok (.if_icmp .ne 7, 3) := by decide +kernel
theorem dL_law_895 : decode cL_law 895 = .ok (.iconst 1, 1) := by decide +kernel
theorem dL_law_896 : decode cL_law 896 = .ok (.goto 54, 3) := by decide +kernel
theorem dL_law_899 : decode cL_law 899 = .ok (.iconst 0, 1) := by decide +kernel
theorem dL_law_900 : decode cL_law 900 = .ok (.goto 50, 3) := by decide +kernel
theorem dL_law_903 : decode cL_law 903 = .ok (.iload 21, 2) := by decide +kernel
theorem dL_law_905 : decode cL_law 905 = .ok (.iload 13, 2) := by decide +kernel
theorem dL_law_907 : decode cL_law 907 = .ok (.iconst 2, 1) := by decide +kernel
theorem dL_law_908 : decode cL_law 908 = .ok (.irem, 1) := by decide +kernel
theorem dL_law_909 : decode cL_law 909 = .ok (.iconst 1, 1) := by decide +kernel
theorem dL_law_910 : decode cL_law 910 = .ok (.if_icmp .ne 7, 3) := by decide +kernel
theorem dL_law_913 : decode cL_law 913 = .ok (.iconst 0, 1) := by decide +kernel
theorem dL_law_914 : decode cL_law 914 = .ok (.goto 5, 3) := by decide +kernel
theorem dL_law_917 : decode cL_law 917 = .ok (.iload 20, 2) := by decide +kernel
theorem dL_law_919 : decode cL_law 919 = .ok (.if_icmp .ne 30, 3) := by decide +kernel
theorem dL_law_922 : decode cL_law 922 = .ok (.aload_n 1, 1) := by decide +kernel
theorem dL_law_923 : decode cL_law 923 = .ok (.iload 17, 2) := by decide +kernel
theorem dL_law_925 : decode cL_law 925 = .ok (.iconst 1, 1) := by decide +kernel
theorem dL_law_926 : decode cL_law 926 = .ok (.invokevirtual 29, 3) := by decide +kernel
theorem dL_law_929 : decode cL_law 929 = .ok (.iload 18, 2) := by decide +kernel
theorem dL_law_931 : decode cL_law 931 = .ok (.iconst 1, 1) := by decide +kernel
theorem dL_law_932 : decode cL_law 932 = .ok (.isub, 1) := by decide +kernel
theorem dL_law_933 : decode cL_law 933 = .ok (.if_icmp .ne 16, 3) := by decide +kernel
theorem dL_law_936 : decode cL_law 936 = .ok (.aload_n 1, 1) := by decide +kernel
theorem dL_law_937 : decode cL_law 937 = .ok (.invokestatic 137, 3) := by decide +kernel
theorem dL_law_940 : decode cL_law 940 = .ok (.iload 19, 2) := by decide +kernel
theorem dL_law_942 : decode cL_law 942 = .ok (.if_icmp .ne 7, 3) := by decide +kernel
theorem dL_law_945 : decode cL_law 945 = .ok (.iconst 1, 1) := by decide +kernel
theorem dL_law_946 : decode cL_law 946 = .ok (.goto 4, 3) := by decide +kernel
theorem dL_law_949 : decode cL_law 949 = .ok (.iconst 0, 1) := by decide +kernel
theorem dL_law_950 : decode cL_law 950 = .ok (.istore 10, 2) := by decide +kernel
theorem dL_law_952 : decode cL_law 952 = .ok (.iload 10, 2) := by decide +kernel
theorem dL_law_954 : decode cL_law 954 = .ok (.ifCond .eq 53, 3) := by decide +kernel
theorem dL_law_957 : decode cL_law 957 = .ok (.aload_n 1, 1) := by decide +kernel
theorem dL_law_958 : decode cL_law 958 = .ok (.iload 17, 2) := by decide +kernel
theorem dL_law_960 : decode cL_law 960 = .ok (.aload 7, 2) := by decide +kernel
theorem dL_law_962 : decode cL_law 962 = .ok (.iload 17, 2) := by decide +kernel
theorem dL_law_964 : decode cL_law 964 = .ok (.iaload, 1) := by decide +kernel
theorem dL_law_965 : decode cL_law 965 = .ok (.aload 8, 2) := by decide +kernel
theorem dL_law_967 : decode cL_law 967 = .ok (.iload 17, 2) := by decide +kernel
theorem dL_law_969 : decode cL_law 969 = .ok (.iaload, 1) := by decide +kernel
theorem dL_law_970 : decode cL_law 970 = .ok (.aload 9, 2) := by decide +kernel
theorem dL_law_972 : decode cL_law 972 = .ok (.iload 17, 2) := by decide +kernel
theorem dL_law_974 : decode cL_law 974 = .ok (.iaload, 1) := by decide +kernel
theorem dL_law_975 : decode cL_law 975 = .ok (.invokestatic 170, 3) := by decide +kernel
theorem dL_law_978 : decode cL_law 978 = .ok (.ifCond .eq 29, 3) := by decide +kernel
theorem dL_law_981 : decode cL_law 981 = .ok (.iload 11, 2) := by decide +kernel
theorem dL_law_983 : decode cL_law 983 = .ok (.bipush 20, 2) := by decide +kernel
theorem dL_law_985 : decode cL_law 985 = .ok (.irem, 1) := by decide +kernel
theorem dL_law_986 : decode cL_law 986 = .ok (.ifCond .gt 17, 3) := by decide +kernel
theorem dL_law_989 : decode cL_law 989 = .ok (.aload_n 1, 1) := by decide +kernel
theorem dL_law_990 : decode cL_law 990 = .ok (.iload 12, 2) := by decide +kernel
theorem dL_law_992 : decode cL_law 992 = .ok (.iconst 3, 1) := by decide +kernel
theorem dL_law_993 : decode cL_law 993 = .ok (.idiv, 1) := by decide +kernel
theorem dL_law_994 : decode cL_law 994 = .ok (.aload_n 3, 1) := by decide +kernel
theorem dL_law_995 : decode cL_law 995 = .ok (.aload 5, 2) := by decide +kernel
theorem dL_law_997 : decode cL_law 997 = .ok (.invokestatic 150, 3) := by decide +kernel
theorem dL_law_1000 : decode cL_law 1000 = .ok (.ifCond .eq 7, 3) := by decide +kernel
theorem dL_law_1003 : decode cL_law 1003 = .ok (.iconst 1, 1) := by decide +kernel
theorem dL_law_1004 : decode cL_law 1004 = .ok (.goto 4, 3) := by decide +kernel
theorem dL_law_1007 : decode cL_law 1007 = .ok (.iconst 0, 1) := by decide +kernel
theorem dL_law_1008 : decode cL_law 1008 = .ok (.istore 10, 2) := by decide +kernel
theorem dL_law_1010 : decode cL_law 1010 = .ok (.iconst 0, 1) := by decide +kernel
theorem dL_law_1011 : decode cL_law 1011 = .ok (.istore 18, 2) := by decide +kernel
theorem dL_law_1013 : decode cL_law 1013 = .ok (.iload 18, 2) := by decide +kernel
theorem dL_law_1015 : decode cL_law 1015 = .ok (.aload_n 1, 1) := by decide +kernel
theorem dL_law_1016 : decode cL_law 1016 = .ok (.invokevirtual 98, 3) := by decide +kernel
theorem dL_law_1019 : decode cL_law 1019 = .ok (.if_icmp .ge 27, 3) := by decide +kernel
theorem dL_law_1022 : decode cL_law 1022 = .ok (.iload 10, 2) := by decide +kernel
theorem dL_law_1024 : decode cL_law 1024 = .ok (.ifCond .eq 22, 3) := by decide +kernel
theorem dL_law_1027 : decode cL_law 1027 = .ok (.aload_n 1, 1) := by decide +kernel
theorem dL_law_1028 : decode cL_law 1028 = .ok (.iload 18, 2) := by decide +kernel
theorem dL_law_1030 : decode cL_law 1030 = .ok (.aload_n 3, 1) := by decide +kernel
theorem dL_law_1031 : decode cL_law 1031 = .ok (.aload 4, 2) := by decide +kernel
theorem dL_law_1033 : decode cL_law 1033 = .ok (.aload 5, 2) := by decide +kernel
theorem dL_law_1035 : decode cL_law 1035 = .ok (.invokestatic 174, 3) := by decide +kernel
theorem dL_law_1038 : decode cL_law 1038 = .ok (.istore 10, 2) := by decide +kernel
theorem dL_law_1040 : decode cL_law 1040 = .ok (.iinc 18 1, 3) := by decide +kernel
theorem dL_law_1043 : decode cL_law 1043 = .ok (.goto (-30), 3) := by decide +kernel
theorem dL_law_1046 : decode cL_law 1046 = .ok (.iinc 11 1, 3) := by decide +kernel
theorem dL_law_1049 : decode cL_law 1049 = .ok (.goto (-917), 3) := by decide +kernel
theorem dL_law_1052 : decode cL_law 1052 = .ok (.iload 10, 2) := by decide +kernel
theorem dL_law_1054 : decode cL_law 1054 = .ok (.ireturn, 1) := by decide +kernel

theorem dL_matches_0 : decode cL_matches 0 = .ok (.new 8, 3) := by decide +kernel
theorem dL_matches_3 : decode cL_matches 3 = .ok (.dup, 1) := by decide +kernel
theorem dL_matches_4 : decode cL_matches 4 = .ok (.invokespecial 101, 3) := by decide +kernel
theorem dL_matches_7 : decode cL_matches 7 = .ok (.astore_n 0, 1) := by decide +kernel
theorem dL_matches_8 : decode cL_matches 8 = .ok (.aload_n 0, 1) := by decide +kernel
theorem dL_matches_9 : decode cL_matches 9 = .ok (.invokevirtual 86, 3) := by decide +kernel
theorem dL_matches_12 : decode cL_matches 12 = .ok (.ifCond .ne 223, 3) := by decide +kernel
theorem dL_matches_15 : decode cL_matches 15 = .ok (.aload_n 0, 1) := by decide +kernel
theorem dL_matches_16 : decode cL_matches 16 = .ok (.iconst 2, 1) := by decide +kernel
theorem dL_matches_17 : decode cL_matches 17 = .ok (.invokevirtual 72, 3) := by decide +kernel
theorem dL_matches_20 : decode cL_matches 20 = .ok (.ifCond .ne 215, 3) := by decide +kernel
theorem dL_matches_23 : decode cL_matches 23 = .ok (.aload_n 0, 1) := by decide +kernel
theorem dL_matches_24 : decode cL_matches 24 = .ok (.iconst 4, 1) := by decide +kernel
theorem dL_matches_25 : decode cL_matches 25 = .ok (.invokevirtual 75, 3) := by decide +kernel
theorem dL_matches_28 : decode cL_matches 28 = .ok (.ifCond .ne 207, 3) := by decide +kernel
theorem dL_matches_31 : decode cL_matches 31 = .ok (.aload_n 0, 1) := by decide +kernel
theorem dL_matches_32 : decode cL_matches 32 = .ok (.iconst 4, 1) := by decide +kernel
theorem dL_matches_33 : decode cL_matches 33 = .ok (.invokevirtual 78, 3) := by decide +kernel
theorem dL_matches_36 : decode cL_matches 36 = .ok (.ifCond .ne 199, 3) := by decide +kernel
theorem dL_matches_39 : decode cL_matches 39 = .ok (.aload_n 0, 1) := by decide +kernel
theorem dL_matches_40 : decode cL_matches 40 = .ok (.iconst 1, 1) := by decide +kernel
theorem dL_matches_41 : decode cL_matches 41 = .ok (.iconst 0, 1) := by decide +kernel
theorem dL_matches_42 : decode cL_matches 42 = .ok (.invokevirtual 36, 3) := by decide +kernel
theorem dL_matches_45 : decode cL_matches 45 = .ok (.ifCond .ne 190, 3) := by decide +kernel
theorem dL_matches_48 : decode cL_matches 48 = .ok (.aload_n 0, 1) := by decide +kernel
theorem dL_matches_49 : decode cL_matches 49 = .ok (.iconst 0, 1) := by decide +kernel
theorem dL_matches_50 : decode cL_matches 50 = .ok (.iconst 0, 1) := by decide +kernel
theorem dL_matches_51 : decode cL_matches 51 = .ok (.invokevirtual 39, 3) := by decide +kernel
theorem dL_matches_54 : decode cL_matches 54 = .ok (.ifCond .ne 181, 3) := by decide +kernel
theorem dL_matches_57 : decode cL_matches 57 = .ok (.aload_n 0, 1) := by decide +kernel
theorem dL_matches_58 : decode cL_matches 58 = .ok (.invokestatic 102, 3) := by decide +kernel
theorem dL_matches_61 : decode cL_matches 61 = .ok (.ifCond .eq 174, 3) := by decide +kernel
theorem dL_matches_64 : decode cL_matches 64 = .ok (.aload_n 0, 1) := by decide +kernel
theorem dL_matches_65 : decode cL_matches 65 = .ok (.iconst 1, 1) := by decide +kernel
theorem dL_matches_66 : decode cL_matches 66 = .ok (.iconst 0, 1) := by decide +kernel
theorem dL_matches_67 : decode cL_matches 67 = .ok (.iconst 5, 1) := by decide +kernel
theorem dL_matches_68 : decode cL_matches 68 = .ok (.iconst 1, 1) := by decide +kernel
theorem dL_matches_69 : decode cL_matches 69 = .ok (.iconst 1, 1) := by decide +kernel
theorem dL_matches_70 : decode cL_matches 70 = .ok (.invokestatic 97, 3) := by decide +kernel
theorem dL_matches_73 : decode cL_matches 73 = .ok (.bipush (-93), 2) := by decide +kernel
theorem dL_matches_75 : decode cL_matches 75 = .ok (.if_icmp .ne 160, 3) := by decide +kernel
theorem dL_matches_78 : decode cL_matches 78 = .ok (.aload_n 0, 1) := by decide +kernel
theorem dL_matches_79 : decode cL_matches 79 = .ok (.iconst 0, 1) := by decide +kernel
theorem dL_matches_80 : decode cL_matches 80 = .ok (.bipush 10, 2) := by decide +kernel
theorem dL_matches_82 : decode cL_matches 82 = .ok (.bipush 100, 2) := by decide +kernel
theorem dL_matches_84 : decode cL_matches 84 = .ok (.sipush 1000, 3) := by decide +kernel
theorem dL_matches_87 : decode cL_matches 87 = .ok (.invokevirtual 17, 3) := by decide +kernel
theorem dL_matches_90 : decode cL_matches 90 = .ok (.ifCond .ne 145, 3) := by decide +kernel
theorem dL_matches_93 : decode cL_matches 93 = .ok (.aload_n 0, 1) := by decide +kernel
theorem dL_matches_94 : decode cL_matches 94 = .ok (.iconst 1, 1) := by decide +kernel
theorem dL_matches_95 : decode cL_matches 95 = .ok (.iconst 0, 1) := by decide +kernel
theorem dL_matches_96 : decode cL_matches 96 = .ok (.bipush 9, 2) := by decide +kernel
theorem dL_matches_98 : decode cL_matches 98 = .ok (.iconst 1, 1) := by decide +kernel
theorem dL_matches_99 : decode cL_matches 99 = .ok (.iconst 1, 1) := by decide +kernel
theorem dL_matches_100 : decode cL_matches 100 = .ok (.invokestatic 97, 3) := by decide +kernel
theorem dL_matches_103 : decode cL_matches 103 = .ok (.bipush (-93), 2) := by decide +kernel
theorem dL_matches_105 : decode cL_matches 105 = .ok (.if_icmp .ne 130, 3) := by decide +kernel
theorem dL_matches_108 : decode cL_matches 108 = .ok (.aload_n 0, 1) := by decide +kernel
theorem dL_matches_109 : decode cL_matches 109 = .ok (.iconst 0, 1) := by decide +kernel
theorem dL_matches_110 : decode cL_matches 110 = .ok (.bipush 20, 2) := by decide +kernel
theorem dL_matches_112 : decode cL_matches 112 = .ok (.bipush 40, 2) := by decide +kernel
theorem dL_matches_114 : decode cL_matches 114 = .ok (.sipush 600, 3) := by decide +kernel
theorem dL_matches_117 : decode cL_matches 117 = .ok (.invokevirtual 21, 3) := by decide +kernel
theorem dL_matches_120 : decode cL_matches 120 = .ok (.iconst 1, 1) := by decide +kernel
theorem dL_matches_121 : decode cL_matches 121 = .ok (.if_icmp .ne 114, 3) := by decide +kernel
theorem dL_matches_124 : decode cL_matches 124 = .ok (.aload_n 0, 1) := by decide +kernel
theorem dL_matches_125 : decode cL_matches 125 = .ok (.iconst 0, 1) := by decide +kernel
theorem dL_matches_126 : decode cL_matches 126 = .ok (.invokevirtual 72, 3) := by decide +kernel
theorem dL_matches_129 : decode cL_matches 129 = .ok (.iconst 1, 1) := by decide +kernel
theorem dL_matches_130 : decode cL_matches 130 = .ok (.if_icmp .ne 105, 3) := by decide +kernel
theorem dL_matches_133 : decode cL_matches 133 = .ok (.aload_n 0, 1) := by decide +kernel
theorem dL_matches_134 : decode cL_matches 134 = .ok (.iconst 0, 1) := by decide +kernel
theorem dL_matches_135 : decode cL_matches 135 = .ok (.iconst 0, 1) := by decide +kernel
theorem dL_matches_136 : decode cL_matches 136 = .ok (.iconst 2, 1) := by decide +kernel
theorem dL_matches_137 : decode cL_matches 137 = .ok (.bipush 20, 2) := by decide +kernel
theorem dL_matches_139 : decode cL_matches 139 = .ok (.iconst (-1), 1) := by decide +kernel
theorem dL_matches_140 : decode cL_matches 140 = .ok (.bipush 40, 2) := by decide +kernel
theorem dL_matches_142 : decode cL_matches 142 = .ok (.sipush 400, 3) := by decide +kernel
theorem dL_matches_145 : decode cL_matches 145 = .ok (.sipush 600, 3) := by decide +kernel
theorem dL_matches_148 : decode cL_matches 148 = .ok (.invokestatic 106, 3) := by decide +kernel
theorem dL_matches_151 : decode cL_matches 151 = .ok (.ifCond .eq 84, 3) := by decide +kernel
theorem dL_matches_154 : decode cL_matches 154 = .ok (.aload_n 0, 1) := by decide +kernel
theorem dL_matches_155 : decode cL_matches 155 = .ok (.iconst 0, 1) := by decide +kernel
theorem dL_matches_156 : decode cL_matches 156 = .ok (.iconst 0, 1) := by decide +kernel
theorem dL_matches_157 : decode cL_matches 157 = .ok (.invokevirtual 45, 3) := by decide +kernel
theorem dL_matches_160 : decode cL_matches 160 = .ok (.sipush 200, 3) := by decide +kernel
theorem dL_matches_163 : decode cL_matches 163 = .ok (.if_icmp .ne 72, 3) := by decide +kernel
theorem dL_matches_166 : decode cL_matches 166 = .ok (.aload_n 0, 1) := by decide +kernel
theorem dL_matches_167 : decode cL_matches 167 = .ok (.iconst 0, 1) := by decide +kernel
theorem dL_matches_168 : decode cL_matches 168 = .ok (.iconst 1, 1) := by decide +kernel
theorem dL_matches_169 : decode cL_matches 169 = .ok (.invokevirtual 45, 3) := by decide +kernel
theorem dL_matches_172 : decode cL_matches 172 = .ok (.ifCond .ne 63, 3) := by decide +kernel
theorem dL_matches_175 : decode cL_matches 175 = .ok (.aload_n 0, 1) := by decide +kernel
theorem dL_matches_176 : decode cL_matches 176 = .ok (.iconst 0, 1) := by decide +kernel
theorem dL_matches_177 : decode cL_matches 177 = .ok (.bipush 19, 2) := by decide +kernel
theorem dL_matches_179 : decode cL_matches 179 = .ok (.invokevirtual 39, 3) := by decide +kernel
theorem dL_matches_182 : decode cL_matches 182 = .ok (.bipush 100, 2) := by decide +kernel
theorem dL_matches_184 : decode cL_matches 184 = .ok (.if_icmp .ne 51, 3) := by decide +kernel
theorem dL_matches_187 : decode cL_matches 187 = .ok (.aload_n 0, 1) := by decide +kernel
theorem dL_matches_188 : decode cL_matches 188 = .ok (.iconst 0, 1) := by decide +kernel
theorem dL_matches_189 : decode cL_matches 189 = .ok (.bipush 20, 2) := by decide +kernel
theorem dL_matches_191 : decode cL_matches 191 = .ok (.invokevirtual 39, 3) := by decide +kernel
theorem dL_matches_194 : decode cL_matches 194 = .ok (.bipush 60, 2) := by decide +kernel
theorem dL_matches_196 : decode cL_matches 196 = .ok (.if_icmp .ne 39, 3) := by decide +kernel
theorem dL_matches_199 : decode cL_matches 199 = .ok (.aload_n 0, 1) := by decide +kernel
theorem dL_matches_200 : decode cL_matches 200 = .ok (.iconst 0, 1) := by decide +kernel
theorem dL_matches_201 : decode cL_matches 201 = .ok (.bipush 20, 2) := by decide +kernel
theorem dL_matches_203 : decode cL_matches 203 = .ok (.invokevirtual 42, 3) := by decide +kernel
theorem dL_matches_206 : decode cL_matches 206 = .ok (.sipush 600, 3) := by decide +kernel
theorem dL_matches_209 : decode cL_matches 209 = .ok (.if_icmp .ne 26, 3) := by decide +kernel
theorem dL_matches_212 : decode cL_matches 212 = .ok (.aload_n 0, 1) := by decide +kernel
theorem dL_matches_213 : decode cL_matches 213 = .ok (.iconst 0, 1) := by decide +kernel
theorem dL_matches_214 : decode cL_matches 214 = .ok (.bipush 9, 2) := by decide +kernel
theorem dL_matches_216 : decode cL_matches 216 = .ok (.invokevirtual 36, 3) := by decide +kernel
theorem dL_matches_219 : decode cL_matches 219 = .ok (.ifCond .ne 16, 3) := by decide +kernel
theorem dL_matches_222 : decode cL_matches 222 = .ok (.aload_n 0, 1) := by decide +kernel
theorem dL_matches_223 : decode cL_matches 223 = .ok (.iconst 0, 1) := by decide +kernel
theorem dL_matches_224 : decode cL_matches 224 = .ok (.sipush 1824, 3) := by decide +kernel
theorem dL_matches_227 : decode cL_matches 227 = .ok (.invokevirtual 36, 3) := by decide +kernel
theorem dL_matches_230 : decode cL_matches 230 = .ok (.bipush 60, 2) := by decide +kernel
theorem dL_matches_232 : decode cL_matches 232 = .ok (.if_icmp .eq 5, 3) := by decide +kernel
theorem dL_matches_235 : decode cL_matches 235 = .ok (.iconst 0, 1) := by decide +kernel
theorem dL_matches_236 : decode cL_matches 236 = .ok (.ireturn, 1) := by decide +kernel
theorem dL_matches_237 : decode cL_matches 237 = .ok (.aload_n 0, 1) := by decide +kernel
theorem dL_matches_238 : decode cL_matches 238 = .ok (.iconst 0, 1) := by decide +kernel
theorem dL_matches_239 : decode cL_matches 239 = .ok (.bipush 25, 2) := by decide +kernel
theorem dL_matches_241 : decode cL_matches 241 = .ok (.bipush 30, 2) := by decide +kernel
theorem dL_matches_243 : decode cL_matches 243 = .ok (.sipush 450, 3) := by decide +kernel
theorem dL_matches_246 : decode cL_matches 246 = .ok (.invokevirtual 17, 3) := by decide +kernel
theorem dL_matches_249 : decode cL_matches 249 = .ok (.iconst 2, 1) := by decide +kernel
theorem dL_matches_250 : decode cL_matches 250 = .ok (.if_icmp .ne 225, 3) := by decide +kernel
theorem dL_matches_253 : decode cL_matches 253 = .ok (.aload_n 0, 1) := by decide +kernel
theorem dL_matches_254 : decode cL_matches 254 = .ok (.iconst 0, 1) := by decide +kernel
theorem dL_matches_255 : decode cL_matches 255 = .ok (.invokevirtual 72, 3) := by decide +kernel
theorem dL_matches_258 : decode cL_matches 258 = .ok (.iconst 2, 1) := by decide +kernel
theorem dL_matches_259 : decode cL_matches 259 = .ok (.if_icmp .ne 216, 3) := by decide +kernel
theorem dL_matches_262 : decode cL_matches 262 = .ok (.aload_n 0, 1) := by decide +kernel
theorem dL_matches_263 : decode cL_matches 263 = .ok (.iconst 0, 1) := by decide +kernel
theorem dL_matches_264 : decode cL_matches 264 = .ok (.iconst 0, 1) := by decide +kernel
theorem dL_matches_265 : decode cL_matches 265 = .ok (.iconst 1, 1) := by decide +kernel
theorem dL_matches_266 : decode cL_matches 266 = .ok (.bipush 20, 2) := by decide +kernel
theorem dL_matches_268 : decode cL_matches 268 = .ok (.bipush 25, 2) := by decide +kernel
theorem dL_matches_270 : decode cL_matches 270 = .ok (.bipush 30, 2) := by decide +kernel
theorem dL_matches_272 : decode cL_matches 272 = .ok (.sipush 450, 3) := by decide +kernel
theorem dL_matches_275 : decode cL_matches 275 = .ok (.sipush 450, 3) := by decide +kernel
theorem dL_matches_278 : decode cL_matches 278 = .ok (.invokestatic 106, 3) := by decide +kernel
theorem dL_matches_281 : decode cL_matches 281 = .ok (.ifCond .eq 194, 3) := by decide +kernel
theorem dL_matches_284 : decode cL_matches 284 = .ok (.aload_n 0, 1) := by decide +kernel
theorem dL_matches_285 : decode cL_matches 285 = .ok (.iconst 0, 1) := by decide +kernel
theorem dL_matches_286 : decode cL_matches 286 = .ok (.iconst 1, 1) := by decide +kernel
theorem dL_matches_287 : decode cL_matches 287 = .ok (.iconst 2, 1) := by decide +kernel
theorem dL_matches_288 : decode cL_matches 288 = .ok (.bipush 20, 2) := by decide +kernel
theorem dL_matches_290 : decode cL_matches 290 = .ok (.iconst (-1), 1) := by decide +kernel
theorem dL_matches_291 : decode cL_matches 291 = .ok (.bipush 10, 2) := by decide +kernel
theorem dL_matches_293 : decode cL_matches 293 = .ok (.bipush 100, 2) := by decide +kernel
theorem dL_matches_295 : decode cL_matches 295 = .ok (.sipush 150, 3) := by decide +kernel
theorem dL_matches_298 : decode cL_matches 298 = .ok (.invokestatic 106, 3) := by decide +kernel
theorem dL_matches_301 : decode cL_matches 301 = .ok (.ifCond .eq 174, 3) := by decide +kernel
theorem dL_matches_304 : decode cL_matches 304 = .ok (.aload_n 0, 1) := by decide +kernel
theorem dL_matches_305 : decode cL_matches 305 = .ok (.iconst 0, 1) := by decide +kernel
theorem dL_matches_306 : decode cL_matches 306 = .ok (.iconst 0, 1) := by decide +kernel
theorem dL_matches_307 : decode cL_matches 307 = .ok (.invokevirtual 45, 3) := by decide +kernel
theorem dL_matches_310 : decode cL_matches 310 = .ok (.bipush 50, 2) := by decide +kernel
theorem dL_matches_312 : decode cL_matches 312 = .ok (.if_icmp .ne 163, 3) := by decide +kernel
theorem dL_matches_315 : decode cL_matches 315 = .ok (.aload_n 0, 1) := by decide +kernel
theorem dL_matches_316 : decode cL_matches 316 = .ok (.iconst 0, 1) := by decide +kernel
theorem dL_matches_317 : decode cL_matches 317 = .ok (.bipush 24, 2) := by decide +kernel
theorem dL_matches_319 : decode cL_matches 319 = .ok (.invokevirtual 39, 3) := by decide +kernel
theorem dL_matches_322 : decode cL_matches 322 = .ok (.bipush 90, 2) := by decide +kernel
theorem dL_matches_324 : decode cL_matches 324 = .ok (.if_icmp .ne 151, 3) := by decide +kernel
theorem dL_matches_327 : decode cL_matches 327 = .ok (.aload_n 0, 1) := by decide +kernel
theorem dL_matches_328 : decode cL_matches 328 = .ok (.iconst 0, 1) := by decide +kernel
theorem dL_matches_329 : decode cL_matches 329 = .ok (.bipush 24, 2) := by decide +kernel
theorem dL_matches_331 : decode cL_matches 331 = .ok (.invokevirtual 36, 3) := by decide +kernel
theorem dL_matches_334 : decode cL_matches 334 = .ok (.bipush 60, 2) := by decide +kernel
theorem dL_matches_336 : decode cL_matches 336 = .ok (.if_icmp .ne 139, 3) := by decide +kernel
theorem dL_matches_339 : decode cL_matches 339 = .ok (.aload_n 0, 1) := by decide +kernel
theorem dL_matches_340 : decode cL_matches 340 = .ok (.iconst 0, 1) := by decide +kernel
theorem dL_matches_341 : decode cL_matches 341 = .ok (.bipush 25, 2) := by decide +kernel
theorem dL_matches_343 : decode cL_matches 343 = .ok (.invokevirtual 39, 3) := by decide +kernel
theorem dL_matches_346 : decode cL_matches 346 = .ok (.bipush 90, 2) := by decide +kernel
theorem dL_matches_348 : decode cL_matches 348 = .ok (.if_icmp .ne 127, 3) := by decide +kernel
theorem dL_matches_351 : decode cL_matches 351 = .ok (.aload_n 0, 1) := by decide +kernel
theorem dL_matches_352 : decode cL_matches 352 = .ok (.iconst 0, 1) := by decide +kernel
theorem dL_matches_353 : decode cL_matches 353 = .ok (.bipush 25, 2) := by decide +kernel
theorem dL_matches_355 : decode cL_matches 355 = .ok (.invokevirtual 42, 3) := by decide +kernel
theorem dL_matches_358 : decode cL_matches 358 = .ok (.sipush 900, 3) := by decide +kernel
theorem dL_matches_361 : decode cL_matches 361 = .ok (.if_icmp .ne 114, 3) := by decide +kernel
theorem dL_matches_364 : decode cL_matches 364 = .ok (.aload_n 0, 1) := by decide +kernel
theorem dL_matches_365 : decode cL_matches 365 = .ok (.iconst 0, 1) := by decide +kernel
theorem dL_matches_366 : decode cL_matches 366 = .ok (.bipush 25, 2) := by decide +kernel
theorem dL_matches_368 : decode cL_matches 368 = .ok (.invokevirtual 36, 3) := by decide +kernel
theorem dL_matches_371 : decode cL_matches 371 = .ok (.bipush 90, 2) := by decide +kernel
theorem dL_matches_373 : decode cL_matches 373 = .ok (.if_icmp .ne 102, 3) := by decide +kernel
theorem dL_matches_376 : decode cL_matches 376 = .ok (.aload_n 0, 1) := by decide +kernel
theorem dL_matches_377 : decode cL_matches 377 = .ok (.iconst 0, 1) := by decide +kernel
theorem dL_matches_378 : decode cL_matches 378 = .ok (.bipush 20, 2) := by decide +kernel
theorem dL_matches_380 : decode cL_matches 380 = .ok (.iconst 5, 1) := by decide +kernel
theorem dL_matches_381 : decode cL_matches 381 = .ok (.bipush 70, 2) := by decide +kernel
theorem dL_matches_383 : decode cL_matches 383 = .ok (.invokevirtual 17, 3) := by decide +kernel
theorem dL_matches_386 : decode cL_matches 386 = .ok (.iconst 3, 1) := by decide +kernel
theorem dL_matches_387 : decode cL_matches 387 = .ok (.if_icmp .ne 88, 3) := by decide +kernel
theorem dL_matches_390 : decode cL_matches 390 = .ok (.aload_n 0, 1) := by decide +kernel
theorem dL_matches_391 : decode cL_matches 391 = .ok (.iconst 0, 1) := by decide +kernel
theorem dL_matches_392 : decode cL_matches 392 = .ok (.invokevirtual 72, 3) := by decide +kernel
theorem dL_matches_395 : decode cL_matches 395 = .ok (.iconst 3, 1) := by decide +kernel
theorem dL_matches_396 : decode cL_matches 396 = .ok (.if_icmp .ne 79, 3) := by decide +kernel
theorem dL_matches_399 : decode cL_matches 399 = .ok (.aload_n 0, 1) := by decide +kernel
theorem dL_matches_400 : decode cL_matches 400 = .ok (.iconst 0, 1) := by decide +kernel
theorem dL_matches_401 : decode cL_matches 401 = .ok (.iconst 0, 1) := by decide +kernel
theorem dL_matches_402 : decode cL_matches 402 = .ok (.iconst 0, 1) := by decide +kernel
theorem dL_matches_403 : decode cL_matches 403 = .ok (.bipush 20, 2) := by decide +kernel
theorem dL_matches_405 : decode cL_matches 405 = .ok (.bipush 20, 2) := by decide +kernel
theorem dL_matches_407 : decode cL_matches 407 = .ok (.iconst 5, 1) := by decide +kernel
theorem dL_matches_408 : decode cL_matches 408 = .ok (.bipush 70, 2) := by decide +kernel
theorem dL_matches_410 : decode cL_matches 410 = .ok (.bipush 75, 2) := by decide +kernel
theorem dL_matches_412 : decode cL_matches 412 = .ok (.invokestatic 106, 3) := by decide +kernel
theorem dL_matches_415 : decode cL_matches 415 = .ok (.ifCond .eq 60, 3) := by decide +kernel
theorem dL_matches_418 : decode cL_matches 418 = .ok (.aload_n 0, 1) := by decide +kernel
theorem dL_matches_419 : decode cL_matches 419 = .ok (.iconst 0, 1) := by decide +kernel
theorem dL_matches_420 : decode cL_matches 420 = .ok (.iconst 1, 1) := by decide +kernel
theorem dL_matches_421 : decode cL_matches 421 = .ok (.iconst 1, 1) := by decide +kernel
theorem dL_matches_422 : decode cL_matches 422 = .ok (.bipush 20, 2) := by decide +kernel
theorem dL_matches_424 : decode cL_matches 424 = .ok (.bipush 25, 2) := by decide +kernel
theorem dL_matches_426 : decode cL_matches 426 = .ok (.bipush 30, 2) := by decide +kernel
theorem dL_matches_428 : decode cL_matches 428 = .ok (.sipush 450, 3) := by decide +kernel
theorem dL_matches_431 : decode cL_matches 431 = .ok (.sipush 450, 3) := by decide +kernel
theorem dL_matches_434 : decode cL_matches 434 = .ok (.invokestatic 106, 3) := by decide +kernel
theorem dL_matches_437 : decode cL_matches 437 = .ok (.ifCond .eq 38, 3) := by decide +kernel
theorem dL_matches_440 : decode cL_matches 440 = .ok (.aload_n 0, 1) := by decide +kernel
theorem dL_matches_441 : decode cL_matches 441 = .ok (.iconst 0, 1) := by decide +kernel
theorem dL_matches_442 : decode cL_matches 442 = .ok (.iconst 2, 1) := by decide +kernel
theorem dL_matches_443 : decode cL_matches 443 = .ok (.iconst 2, 1) := by decide +kernel
theorem dL_matches_444 : decode cL_matches 444 = .ok (.bipush 20, 2) := by decide +kernel
theorem dL_matches_446 : decode cL_matches 446 = .ok (.iconst (-1), 1) := by decide +kernel
theorem dL_matches_447 : decode cL_matches 447 = .ok (.iconst 5, 1) := by decide +kernel
theorem dL_matches_448 : decode cL_matches 448 = .ok (.bipush 50, 2) := by decide +kernel
theorem dL_matches_450 : decode cL_matches 450 = .ok (.bipush 75, 2) := by decide +kernel
theorem dL_matches_452 : decode cL_matches 452 = .ok (.invokestatic 106, 3) := by decide +kernel
theorem dL_matches_455 : decode cL_matches 455 = .ok (.ifCond .eq 20, 3) := by decide +kernel
theorem dL_matches_458 : decode cL_matches 458 = .ok (.aload_n 0, 1) := by decide +kernel
theorem dL_matches_459 : decode cL_matches 459 = .ok (.iconst 0, 1) := by decide +kernel
theorem dL_matches_460 : decode cL_matches 460 = .ok (.invokevirtual 75, 3) := by decide +kernel
theorem dL_matches_463 : decode cL_matches 463 = .ok (.bipush 30, 2) := by decide +kernel
theorem dL_matches_465 : decode cL_matches 465 = .ok (.if_icmp .ne 10, 3) := by decide +kernel
theorem dL_matches_468 : decode cL_matches 468 = .ok (.aload_n 0, 1) := by decide +kernel
theorem dL_matches_469 : decode cL_matches 469 = .ok (.invokestatic 102, 3) := by decide +kernel
theorem dL_matches_472 : decode cL_matches 472 = .ok (.ifCond .ne 5, 3) := by decide +kernel
theorem dL_matches_475 : decode cL_matches 475 = .ok (.iconst 0, 1) := by decide +kernel
theorem dL_matches_476 : decode cL_matches 476 = .ok (.ireturn, 1) := by decide +kernel
theorem dL_matches_477 : decode cL_matches 477 = .ok (.aload_n 0, 1) := by decide +kernel
theorem dL_matches_478 : decode cL_matches 478 = .ok (.iconst 4, 1) := by decide +kernel
theorem dL_matches_479 : decode cL_matches 479 = .ok (.invokevirtual 32, 3) := by decide +kernel
theorem dL_matches_482 : decode cL_matches 482 = .ok (.bipush 30, 2) := by decide +kernel
theorem dL_matches_484 : decode cL_matches 484 = .ok (.if_icmp .ne 193, 3) := by decide +kernel
theorem dL_matches_487 : decode cL_matches 487 = .ok (.aload_n 0, 1) := by decide +kernel
theorem dL_matches_488 : decode cL_matches 488 = .ok (.iconst 0, 1) := by decide +kernel
theorem dL_matches_489 : decode cL_matches 489 = .ok (.invokevirtual 72, 3) := by decide +kernel
theorem dL_matches_492 : decode cL_matches 492 = .ok (.iconst 2, 1) := by decide +kernel
theorem dL_matches_493 : decode cL_matches 493 = .ok (.if_icmp .ne 184, 3) := by decide +kernel
theorem dL_matches_496 : decode cL_matches 496 = .ok (.aload_n 0, 1) := by decide +kernel
theorem dL_matches_497 : decode cL_matches 497 = .ok (.iconst 0, 1) := by decide +kernel
theorem dL_matches_498 : decode cL_matches 498 = .ok (.iconst 1, 1) := by decide +kernel
theorem dL_matches_499 : decode cL_matches 499 = .ok (.iconst 2, 1) := by decide +kernel
theorem dL_matches_500 : decode cL_matches 500 = .ok (.bipush 20, 2) := by decide +kernel
theorem dL_matches_502 : decode cL_matches 502 = .ok (.iconst (-1), 1) := by decide +kernel
theorem dL_matches_503 : decode cL_matches 503 = .ok (.bipush 35, 2) := by decide +kernel
theorem dL_matches_505 : decode cL_matches 505 = .ok (.sipush 350, 3) := by decide +kernel
theorem dL_matches_508 : decode cL_matches 508 = .ok (.sipush 525, 3) := by decide +kernel
theorem dL_matches_511 : decode cL_matches 511 = .ok (.invokestatic 106, 3) := by decide +kernel
theorem dL_matches_514 : decode cL_matches 514 = .ok (.ifCond .eq 163, 3) := by decide +kernel
theorem dL_matches_517 : decode cL_matches 517 = .ok (.aload_n 0, 1) := by decide +kernel
theorem dL_matches_518 : decode cL_matches 518 = .ok (.iconst 0, 1) := by decide +kernel
theorem dL_matches_519 : decode cL_matches 519 = .ok (.iconst 0, 1) := by decide +kernel
theorem dL_matches_520 : decode cL_matches 520 = .ok (.invokevirtual 45, 3) := by decide +kernel
theorem dL_matches_523 : decode cL_matches 523 = .ok (.sipush 180, 3) := by decide +kernel
theorem dL_matches_526 : decode cL_matches 526 = .ok (.if_icmp .ne 151, 3) := by decide +kernel
theorem dL_matches_529 : decode cL_matches 529 = .ok (.aload_n 0, 1) := by decide +kernel
theorem dL_matches_530 : decode cL_matches 530 = .ok (.iconst 0, 1) := by decide +kernel
theorem dL_matches_531 : decode cL_matches 531 = .ok (.bipush 20, 2) := by decide +kernel
theorem dL_matches_533 : decode cL_matches 533 = .ok (.invokevirtual 39, 3) := by decide +kernel
theorem dL_matches_536 : decode cL_matches 536 = .ok (.bipush 65, 2) := by decide +kernel
theorem dL_matches_538 : decode cL_matches 538 = .ok (.if_icmp .ne 139, 3) := by decide +kernel
theorem dL_matches_541 : decode cL_matches 541 = .ok (.aload_n 0, 1) := by decide +kernel
theorem dL_matches_542 : decode cL_matches 542 = .ok (.iconst 0, 1) := by decide +kernel
theorem dL_matches_543 : decode cL_matches 543 = .ok (.bipush 25, 2) := by decide +kernel
theorem dL_matches_545 : decode cL_matches 545 = .ok (.invokevirtual 39, 3) := by decide +kernel
theorem dL_matches_548 : decode cL_matches 548 = .ok (.bipush 95, 2) := by decide +kernel
theorem dL_matches_550 : decode cL_matches 550 = .ok (.if_icmp .ne 127, 3) := by decide +kernel
theorem dL_matches_553 : decode cL_matches 553 = .ok (.aload_n 0, 1) := by decide +kernel
theorem dL_matches_554 : decode cL_matches 554 = .ok (.iconst 0, 1) := by decide +kernel
theorem dL_matches_555 : decode cL_matches 555 = .ok (.bipush 25, 2) := by decide +kernel
theorem dL_matches_557 : decode cL_matches 557 = .ok (.invokevirtual 42, 3) := by decide +kernel
theorem dL_matches_560 : decode cL_matches 560 = .ok (.sipush 1100, 3) := by decide +kernel
theorem dL_matches_563 : decode cL_matches 563 = .ok (.if_icmp .ne 114, 3) := by decide +kernel
theorem dL_matches_566 : decode cL_matches 566 = .ok (.aload_n 0, 1) := by decide +kernel
theorem dL_matches_567 : decode cL_matches 567 = .ok (.iconst 5, 1) := by decide +kernel
theorem dL_matches_568 : decode cL_matches 568 = .ok (.invokevirtual 32, 3) := by decide +kernel
theorem dL_matches_571 : decode cL_matches 571 = .ok (.iconst 4, 1) := by decide +kernel
theorem dL_matches_572 : decode cL_matches 572 = .ok (.if_icmp .ne 105, 3) := by decide +kernel
theorem dL_matches_575 : decode cL_matches 575 = .ok (.aload_n 0, 1) := by decide +kernel
theorem dL_matches_576 : decode cL_matches 576 = .ok (.iconst 0, 1) := by decide +kernel
theorem dL_matches_577 : decode cL_matches 577 = .ok (.invokevirtual 72, 3) := by decide +kernel
theorem dL_matches_580 : decode cL_matches 580 = .ok (.iconst 3, 1) := by decide +kernel
theorem dL_matches_581 : decode cL_matches 581 = .ok (.if_icmp .ne 96, 3) := by decide +kernel
theorem dL_matches_584 : decode cL_matches 584 = .ok (.aload_n 0, 1) := by decide +kernel
theorem dL_matches_585 : decode cL_matches 585 = .ok (.iconst 0, 1) := by decide +kernel
theorem dL_matches_586 : decode cL_matches 586 = .ok (.invokestatic 92, 3) := by decide +kernel
theorem dL_matches_589 : decode cL_matches 589 = .ok (.bipush (-93), 2) := by decide +kernel
theorem dL_matches_591 : decode cL_matches 591 = .ok (.if_icmp .ne 86, 3) := by decide +kernel
theorem dL_matches_594 : decode cL_matches 594 = .ok (.aload_n 0, 1) := by decide +kernel
theorem dL_matches_595 : decode cL_matches 595 = .ok (.iconst 0, 1) := by decide +kernel
theorem dL_matches_596 : decode cL_matches 596 = .ok (.bipush 10, 2) := by decide +kernel
theorem dL_matches_598 : decode cL_matches 598 = .ok (.invokevirtual 36, 3) := by decide +kernel
theorem dL_matches_601 : decode cL_matches 601 = .ok (.bipush 100, 2) := by decide +kernel
theorem dL_matches_603 : decode cL_matches 603 = .ok (.if_icmp .ne 74, 3) := by decide +kernel
theorem dL_matches_606 : decode cL_matches 606 = .ok (.aload_n 0, 1) := by decide +kernel
theorem dL_matches_607 : decode cL_matches 607 = .ok (.iconst 2, 1) := by decide +kernel
theorem dL_matches_608 : decode cL_matches 608 = .ok (.invokestatic 92, 3) := by decide +kernel
theorem dL_matches_611 : decode cL_matches 611 = .ok (.ifCond .ne 66, 3) := by decide +kernel
theorem dL_matches_614 : decode cL_matches 614 = .ok (.aload_n 0, 1) := by decide +kernel
theorem dL_matches_615 : decode cL_matches 615 = .ok (.iconst 2, 1) := by decide +kernel
theorem dL_matches_616 : decode cL_matches 616 = .ok (.invokestatic 92, 3) := by decide +kernel
theorem dL_matches_619 : decode cL_matches 619 = .ok (.bipush (-93), 2) := by decide +kernel
theorem dL_matches_621 : decode cL_matches 621 = .ok (.if_icmp .ne 56, 3) := by decide +kernel
theorem dL_matches_624 : decode cL_matches 624 = .ok (.aload_n 0, 1) := by decide +kernel
theorem dL_matches_625 : decode cL_matches 625 = .ok (.iconst 0, 1) := by decide +kernel
theorem dL_matches_626 : decode cL_matches 626 = .ok (.invokevirtual 72, 3) := by decide +kernel
theorem dL_matches_629 : decode cL_matches 629 = .ok (.iconst 2, 1) := by decide +kernel
theorem dL_matches_630 : decode cL_matches 630 = .ok (.if_icmp .ne 47, 3) := by decide +kernel
theorem dL_matches_633 : decode cL_matches 633 = .ok (.aload_n 0, 1) := by decide +kernel
theorem dL_matches_634 : decode cL_matches 634 = .ok (.iconst 0, 1) := by decide +kernel
theorem dL_matches_635 : decode cL_matches 635 = .ok (.invokevirtual 66, 3) := by decide +kernel
theorem dL_matches_638 : decode cL_matches 638 = .ok (.sipush 1070, 3) := by decide +kernel
theorem dL_matches_641 : decode cL_matches 641 = .ok (.if_icmp .ne 36, 3) := by decide +kernel
theorem dL_matches_644 : decode cL_matches 644 = .ok (.aload_n 0, 1) := by decide +kernel
theorem dL_matches_645 : decode cL_matches 645 = .ok (.iconst 0, 1) := by decide +kernel
theorem dL_matches_646 : decode cL_matches 646 = .ok (.invokevirtual 69, 3) := by decide +kernel
theorem dL_matches_649 : decode cL_matches 649 = .ok (.sipush 420, 3) := by decide +kernel
theorem dL_matches_652 : decode cL_matches 652 = .ok (.if_icmp .ne 25, 3) := by decide +kernel
theorem dL_matches_655 : decode cL_matches 655 = .ok (.aload_n 0, 1) := by decide +kernel
theorem dL_matches_656 : decode cL_matches 656 = .ok (.iconst 0, 1) := by decide +kernel
theorem dL_matches_657 : decode cL_matches 657 = .ok (.sipush 1824, 3) := by decide +kernel
theorem dL_matches_660 : decode cL_matches 660 = .ok (.invokevirtual 42, 3) := by decide +kernel
theorem dL_matches_663 : decode cL_matches 663 = .ok (.sipush 650, 3) := by decide +kernel
theorem dL_matches_666 : decode cL_matches 666 = .ok (.if_icmp .ne 11, 3) := by decide +kernel
theorem dL_matches_669 : decode cL_matches 669 = .ok (.aload_n 0, 1) := by decide +kernel
theorem dL_matches_670 : decode cL_matches 670 = .ok (.invokevirtual 86, 3) := by decide +kernel
theorem dL_matches_673 : decode cL_matches 673 = .ok (.iconst 4, 1) := by decide +kernel
theorem dL_matches_674 : decode cL_matches 674 = .ok (.if_icmp .eq 5, 3) := by decide +kernel
theorem dL_matches_677 : decode cL_matches 677 = .ok (.iconst 0, 1) := by decide +kernel
theorem dL_matches_678 : decode cL_matches 678 = .ok (.ireturn, 1) := by decide +kernel
theorem dL_matches_679 : decode cL_matches 679 = .ok (.aload_n 0, 1) := by decide +kernel
theorem dL_matches_680 : decode cL_matches 680 = .ok (.iconst 1, 1) := by decide +kernel
theorem dL_matches_681 : decode cL_matches 681 = .ok (.invokestatic 92, 3) := by decide +kernel
theorem dL_matches_684 : decode cL_matches 684 = .ok (.ifCond .ne 54, 3) := by decide +kernel
theorem dL_matches_687 : decode cL_matches 687 = .ok (.aload_n 0, 1) := by decide +kernel
theorem dL_matches_688 : decode cL_matches 688 = .ok (.iconst 0, 1) := by decide +kernel
theorem dL_matches_689 : decode cL_matches 689 = .ok (.invokevirtual 72, 3) := by decide +kernel
theorem dL_matches_692 : decode cL_matches 692 = .ok (.ifCond .ne 46, 3) := by decide +kernel
theorem dL_matches_695 : decode cL_matches 695 = .ok (.aload_n 0, 1) := by decide +kernel
theorem dL_matches_696 : decode cL_matches 696 = .ok (.iconst 0, 1) := by decide +kernel
theorem dL_matches_697 : decode cL_matches 697 = .ok (.invokestatic 92, 3) := by decide +kernel
theorem dL_matches_700 : decode cL_matches 700 = .ok (.ifCond .ne 38, 3) := by decide +kernel
theorem dL_matches_703 : decode cL_matches 703 = .ok (.aload_n 0, 1) := by decide +kernel
theorem dL_matches_704 : decode cL_matches 704 = .ok (.iconst 0, 1) := by decide +kernel
theorem dL_matches_705 : decode cL_matches 705 = .ok (.sipush 1000, 3) := by decide +kernel
theorem dL_matches_708 : decode cL_matches 708 = .ok (.invokevirtual 36, 3) := by decide +kernel
theorem dL_matches_711 : decode cL_matches 711 = .ok (.iconst 5, 1) := by decide +kernel
theorem dL_matches_712 : decode cL_matches 712 = .ok (.if_icmp .ne 26, 3) := by decide +kernel
theorem dL_matches_715 : decode cL_matches 715 = .ok (.aload_n 0, 1) := by decide +kernel
theorem dL_matches_716 : decode cL_matches 716 = .ok (.iconst 0, 1) := by decide +kernel
theorem dL_matches_717 : decode cL_matches 717 = .ok (.bipush 20, 2) := by decide +kernel
theorem dL_matches_719 : decode cL_matches 719 = .ok (.invokevirtual 42, 3) := by decide +kernel
theorem dL_matches_722 : decode cL_matches 722 = .ok (.bipush 70, 2) := by decide +kernel
theorem dL_matches_724 : decode cL_matches 724 = .ok (.if_icmp .ne 14, 3) := by decide +kernel
theorem dL_matches_727 : decode cL_matches 727 = .ok (.aload_n 0, 1) := by decide +kernel
theorem dL_matches_728 : decode cL_matches 728 = .ok (.invokestatic 102, 3) := by decide +kernel
theorem dL_matches_731 : decode cL_matches 731 = .ok (.ifCond .eq 7, 3) := by decide +kernel
theorem dL_matches_734 : decode cL_matches 734 = .ok (.iconst 1, 1) := by decide +kernel
theorem dL_matches_735 : decode cL_matches 735 = .ok (.goto 4, 3) := by decide +kernel
theorem dL_matches_738 : decode cL_matches 738 = .ok (.iconst 0, 1) := by decide +kernel
theorem dL_matches_739 : decode cL_matches 739 = .ok (.ireturn, 1) := by decide +kernel

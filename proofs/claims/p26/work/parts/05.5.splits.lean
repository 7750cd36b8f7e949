theorem dL_splits_0 : decode cL_splits 0 = .ok (.new 8, 3) := by decide +kernel
theorem dL_splits_3 : decode cL_splits 3 = .ok (.dup, 1) := by decide +kernel
theorem dL_splits_4 : decode cL_splits 4 = .ok (.invokespecial 101, 3) := by decide +kernel
theorem dL_splits_7 : decode cL_splits 7 = .ok (.astore_n 0, 1) := by decide +kernel
theorem dL_splits_8 : decode cL_splits 8 = .ok (.aload_n 0, 1) := by decide +kernel
theorem dL_splits_9 : decode cL_splits 9 = .ok (.iconst 1, 1) := by decide +kernel
theorem dL_splits_10 : decode cL_splits 10 = .ok (.bipush 100, 2) := by decide +kernel
theorem dL_splits_12 : decode cL_splits 12 = .ok (.bipush 10, 2) := by decide +kernel
theorem dL_splits_14 : decode cL_splits 14 = .ok (.sipush 1000, 3) := by decide +kernel
theorem dL_splits_17 : decode cL_splits 17 = .ok (.invokevirtual 17, 3) := by decide +kernel
theorem dL_splits_20 : decode cL_splits 20 = .ok (.ifCond .ne 371, 3) := by decide +kernel
theorem dL_splits_23 : decode cL_splits 23 = .ok (.aload_n 0, 1) := by decide +kernel
theorem dL_splits_24 : decode cL_splits 24 = .ok (.iconst 1, 1) := by decide +kernel
theorem dL_splits_25 : decode cL_splits 25 = .ok (.sipush 150, 3) := by decide +kernel
theorem dL_splits_28 : decode cL_splits 28 = .ok (.iconst 3, 1) := by decide +kernel
theorem dL_splits_29 : decode cL_splits 29 = .ok (.invokevirtual 24, 3) := by decide +kernel
theorem dL_splits_32 : decode cL_splits 32 = .ok (.iconst 1, 1) := by decide +kernel
theorem dL_splits_33 : decode cL_splits 33 = .ok (.if_icmp .ne 358, 3) := by decide +kernel
theorem dL_splits_36 : decode cL_splits 36 = .ok (.aload_n 0, 1) := by decide +kernel
theorem dL_splits_37 : decode cL_splits 37 = .ok (.iconst 1, 1) := by decide +kernel
theorem dL_splits_38 : decode cL_splits 38 = .ok (.sipush 200, 3) := by decide +kernel
theorem dL_splits_41 : decode cL_splits 41 = .ok (.bipush 15, 2) := by decide +kernel
theorem dL_splits_43 : decode cL_splits 43 = .ok (.sipush 900, 3) := by decide +kernel
theorem dL_splits_46 : decode cL_splits 46 = .ok (.invokevirtual 21, 3) := by decide +kernel
theorem dL_splits_49 : decode cL_splits 49 = .ok (.iconst 1, 1) := by decide +kernel
theorem dL_splits_50 : decode cL_splits 50 = .ok (.if_icmp .ne 341, 3) := by decide +kernel
theorem dL_splits_53 : decode cL_splits 53 = .ok (.aload_n 0, 1) := by decide +kernel
theorem dL_splits_54 : decode cL_splits 54 = .ok (.iconst 1, 1) := by decide +kernel
theorem dL_splits_55 : decode cL_splits 55 = .ok (.iconst 0, 1) := by decide +kernel
theorem dL_splits_56 : decode cL_splits 56 = .ok (.iconst 2, 1) := by decide +kernel
theorem dL_splits_57 : decode cL_splits 57 = .ok (.sipush 200, 3) := by decide +kernel
theorem dL_splits_60 : decode cL_splits 60 = .ok (.iconst (-1), 1) := by decide +kernel
theorem dL_splits_61 : decode cL_splits 61 = .ok (.bipush 15, 2) := by decide +kernel
theorem dL_splits_63 : decode cL_splits 63 = .ok (.sipush 500, 3) := by decide +kernel
theorem dL_splits_66 : decode cL_splits 66 = .ok (.sipush 900, 3) := by decide +kernel
theorem dL_splits_69 : decode cL_splits 69 = .ok (.invokestatic 106, 3) := by decide +kernel
theorem dL_splits_72 : decode cL_splits 72 = .ok (.ifCond .eq 319, 3) := by decide +kernel
theorem dL_splits_75 : decode cL_splits 75 = .ok (.aload_n 0, 1) := by decide +kernel
theorem dL_splits_76 : decode cL_splits 76 = .ok (.iconst 1, 1) := by decide +kernel
theorem dL_splits_77 : decode cL_splits 77 = .ok (.sipush 149, 3) := by decide +kernel
theorem dL_splits_80 : decode cL_splits 80 = .ok (.invokevirtual 36, 3) := by decide +kernel
theorem dL_splits_83 : decode cL_splits 83 = .ok (.bipush 10, 2) := by decide +kernel
theorem dL_splits_85 : decode cL_splits 85 = .ok (.if_icmp .ne 306, 3) := by decide +kernel
theorem dL_splits_88 : decode cL_splits 88 = .ok (.aload_n 0, 1) := by decide +kernel
theorem dL_splits_89 : decode cL_splits 89 = .ok (.iconst 1, 1) := by decide +kernel
theorem dL_splits_90 : decode cL_splits 90 = .ok (.sipush 150, 3) := by decide +kernel
theorem dL_splits_93 : decode cL_splits 93 = .ok (.invokevirtual 36, 3) := by decide +kernel
theorem dL_splits_96 : decode cL_splits 96 = .ok (.bipush 30, 2) := by decide +kernel
theorem dL_splits_98 : decode cL_splits 98 = .ok (.if_icmp .ne 293, 3) := by decide +kernel
theorem dL_splits_101 : decode cL_splits 101 = .ok (.aload_n 0, 1) := by decide +kernel
theorem dL_splits_102 : decode cL_splits 102 = .ok (.iconst 1, 1) := by decide +kernel
theorem dL_splits_103 : decode cL_splits 103 = .ok (.sipush 200, 3) := by decide +kernel
theorem dL_splits_106 : decode cL_splits 106 = .ok (.invokevirtual 36, 3) := by decide +kernel
theorem dL_splits_109 : decode cL_splits 109 = .ok (.bipush 15, 2) := by decide +kernel
theorem dL_splits_111 : decode cL_splits 111 = .ok (.if_icmp .ne 280, 3) := by decide +kernel
theorem dL_splits_114 : decode cL_splits 114 = .ok (.aload_n 0, 1) := by decide +kernel
theorem dL_splits_115 : decode cL_splits 115 = .ok (.iconst 1, 1) := by decide +kernel
theorem dL_splits_116 : decode cL_splits 116 = .ok (.bipush 100, 2) := by decide +kernel
theorem dL_splits_118 : decode cL_splits 118 = .ok (.invokevirtual 39, 3) := by decide +kernel
theorem dL_splits_121 : decode cL_splits 121 = .ok (.bipush 30, 2) := by decide +kernel
theorem dL_splits_123 : decode cL_splits 123 = .ok (.if_icmp .ne 268, 3) := by decide +kernel
theorem dL_splits_126 : decode cL_splits 126 = .ok (.aload_n 0, 1) := by decide +kernel
theorem dL_splits_127 : decode cL_splits 127 = .ok (.iconst 1, 1) := by decide +kernel
theorem dL_splits_128 : decode cL_splits 128 = .ok (.sipush 300, 3) := by decide +kernel
theorem dL_splits_131 : decode cL_splits 131 = .ok (.bipush 7, 2) := by decide +kernel
theorem dL_splits_133 : decode cL_splits 133 = .ok (.bipush 100, 2) := by decide +kernel
theorem dL_splits_135 : decode cL_splits 135 = .ok (.invokevirtual 17, 3) := by decide +kernel
theorem dL_splits_138 : decode cL_splits 138 = .ok (.iconst 2, 1) := by decide +kernel
theorem dL_splits_139 : decode cL_splits 139 = .ok (.if_icmp .ne 252, 3) := by decide +kernel
theorem dL_splits_142 : decode cL_splits 142 = .ok (.aload_n 0, 1) := by decide +kernel
theorem dL_splits_143 : decode cL_splits 143 = .ok (.iconst 1, 1) := by decide +kernel
theorem dL_splits_144 : decode cL_splits 144 = .ok (.sipush 300, 3) := by decide +kernel
theorem dL_splits_147 : decode cL_splits 147 = .ok (.iconst 2, 1) := by decide +kernel
theorem dL_splits_148 : decode cL_splits 148 = .ok (.invokevirtual 24, 3) := by decide +kernel
theorem dL_splits_151 : decode cL_splits 151 = .ok (.iconst 2, 1) := by decide +kernel
theorem dL_splits_152 : decode cL_splits 152 = .ok (.if_icmp .ne 239, 3) := by decide +kernel
theorem dL_splits_155 : decode cL_splits 155 = .ok (.aload_n 0, 1) := by decide +kernel
theorem dL_splits_156 : decode cL_splits 156 = .ok (.iconst 2, 1) := by decide +kernel
theorem dL_splits_157 : decode cL_splits 157 = .ok (.iconst 1, 1) := by decide +kernel
theorem dL_splits_158 : decode cL_splits 158 = .ok (.sipush 300, 3) := by decide +kernel
theorem dL_splits_161 : decode cL_splits 161 = .ok (.iconst 5, 1) := by decide +kernel
theorem dL_splits_162 : decode cL_splits 162 = .ok (.iconst 0, 1) := by decide +kernel
theorem dL_splits_163 : decode cL_splits 163 = .ok (.invokestatic 97, 3) := by decide +kernel
theorem dL_splits_166 : decode cL_splits 166 = .ok (.bipush (-93), 2) := by decide +kernel
theorem dL_splits_168 : decode cL_splits 168 = .ok (.if_icmp .ne 223, 3) := by decide +kernel
theorem dL_splits_171 : decode cL_splits 171 = .ok (.aload_n 0, 1) := by decide +kernel
theorem dL_splits_172 : decode cL_splits 172 = .ok (.iconst 1, 1) := by decide +kernel
theorem dL_splits_173 : decode cL_splits 173 = .ok (.sipush 299, 3) := by decide +kernel
theorem dL_splits_176 : decode cL_splits 176 = .ok (.invokevirtual 36, 3) := by decide +kernel
theorem dL_splits_179 : decode cL_splits 179 = .ok (.bipush 15, 2) := by decide +kernel
theorem dL_splits_181 : decode cL_splits 181 = .ok (.if_icmp .ne 210, 3) := by decide +kernel
theorem dL_splits_184 : decode cL_splits 184 = .ok (.aload_n 0, 1) := by decide +kernel
theorem dL_splits_185 : decode cL_splits 185 = .ok (.iconst 1, 1) := by decide +kernel
theorem dL_splits_186 : decode cL_splits 186 = .ok (.sipush 300, 3) := by decide +kernel
theorem dL_splits_189 : decode cL_splits 189 = .ok (.invokevirtual 36, 3) := by decide +kernel
theorem dL_splits_192 : decode cL_splits 192 = .ok (.bipush 37, 2) := by decide +kernel
theorem dL_splits_194 : decode cL_splits 194 = .ok (.if_icmp .ne 197, 3) := by decide +kernel
theorem dL_splits_197 : decode cL_splits 197 = .ok (.aload_n 0, 1) := by decide +kernel
theorem dL_splits_198 : decode cL_splits 198 = .ok (.iconst 1, 1) := by decide +kernel
theorem dL_splits_199 : decode cL_splits 199 = .ok (.bipush 100, 2) := by decide +kernel
theorem dL_splits_201 : decode cL_splits 201 = .ok (.invokevirtual 39, 3) := by decide +kernel
theorem dL_splits_204 : decode cL_splits 204 = .ok (.bipush 60, 2) := by decide +kernel
theorem dL_splits_206 : decode cL_splits 206 = .ok (.if_icmp .ne 185, 3) := by decide +kernel
theorem dL_splits_209 : decode cL_splits 209 = .ok (.aload_n 0, 1) := by decide +kernel
theorem dL_splits_210 : decode cL_splits 210 = .ok (.iconst 1, 1) := by decide +kernel
theorem dL_splits_211 : decode cL_splits 211 = .ok (.iconst 0, 1) := by decide +kernel
theorem dL_splits_212 : decode cL_splits 212 = .ok (.iconst 2, 1) := by decide +kernel
theorem dL_splits_213 : decode cL_splits 213 = .ok (.sipush 200, 3) := by decide +kernel
theorem dL_splits_216 : decode cL_splits 216 = .ok (.iconst (-1), 1) := by decide +kernel
theorem dL_splits_217 : decode cL_splits 217 = .ok (.bipush 30, 2) := by decide +kernel
theorem dL_splits_219 : decode cL_splits 219 = .ok (.sipush 500, 3) := by decide +kernel
theorem dL_splits_222 : decode cL_splits 222 = .ok (.sipush 900, 3) := by decide +kernel
theorem dL_splits_225 : decode cL_splits 225 = .ok (.invokestatic 106, 3) := by decide +kernel
theorem dL_splits_228 : decode cL_splits 228 = .ok (.ifCond .eq 163, 3) := by decide +kernel
theorem dL_splits_231 : decode cL_splits 231 = .ok (.aload_n 0, 1) := by decide +kernel
theorem dL_splits_232 : decode cL_splits 232 = .ok (.iconst 1, 1) := by decide +kernel
theorem dL_splits_233 : decode cL_splits 233 = .ok (.sipush 300, 3) := by decide +kernel
theorem dL_splits_236 : decode cL_splits 236 = .ok (.invokevirtual 39, 3) := by decide +kernel
theorem dL_splits_239 : decode cL_splits 239 = .ok (.bipush 37, 2) := by decide +kernel
theorem dL_splits_241 : decode cL_splits 241 = .ok (.if_icmp .ne 150, 3) := by decide +kernel
theorem dL_splits_244 : decode cL_splits 244 = .ok (.aload_n 0, 1) := by decide +kernel
theorem dL_splits_245 : decode cL_splits 245 = .ok (.iconst 1, 1) := by decide +kernel
theorem dL_splits_246 : decode cL_splits 246 = .ok (.sipush 300, 3) := by decide +kernel
theorem dL_splits_249 : decode cL_splits 249 = .ok (.invokevirtual 42, 3) := by decide +kernel
theorem dL_splits_252 : decode cL_splits 252 = .ok (.sipush 600, 3) := by decide +kernel
theorem dL_splits_255 : decode cL_splits 255 = .ok (.if_icmp .ne 136, 3) := by decide +kernel
theorem dL_splits_258 : decode cL_splits 258 = .ok (.aload_n 0, 1) := by decide +kernel
theorem dL_splits_259 : decode cL_splits 259 = .ok (.iconst 1, 1) := by decide +kernel
theorem dL_splits_260 : decode cL_splits 260 = .ok (.iconst 1, 1) := by decide +kernel
theorem dL_splits_261 : decode cL_splits 261 = .ok (.sipush 300, 3) := by decide +kernel
theorem dL_splits_264 : decode cL_splits 264 = .ok (.bipush 38, 2) := by decide +kernel
theorem dL_splits_266 : decode cL_splits 266 = .ok (.iconst 0, 1) := by decide +kernel
theorem dL_splits_267 : decode cL_splits 267 = .ok (.invokestatic 97, 3) := by decide +kernel
theorem dL_splits_270 : decode cL_splits 270 = .ok (.bipush (-93), 2) := by decide +kernel
theorem dL_splits_272 : decode cL_splits 272 = .ok (.if_icmp .ne 119, 3) := by decide +kernel
theorem dL_splits_275 : decode cL_splits 275 = .ok (.aload_n 0, 1) := by decide +kernel
theorem dL_splits_276 : decode cL_splits 276 = .ok (.iconst 1, 1) := by decide +kernel
theorem dL_splits_277 : decode cL_splits 277 = .ok (.iconst 1, 1) := by decide +kernel
theorem dL_splits_278 : decode cL_splits 278 = .ok (.sipush 149, 3) := by decide +kernel
theorem dL_splits_281 : decode cL_splits 281 = .ok (.bipush 8, 2) := by decide +kernel
theorem dL_splits_283 : decode cL_splits 283 = .ok (.iconst 0, 1) := by decide +kernel
theorem dL_splits_284 : decode cL_splits 284 = .ok (.invokestatic 97, 3) := by decide +kernel
theorem dL_splits_287 : decode cL_splits 287 = .ok (.bipush (-93), 2) := by decide +kernel
theorem dL_splits_289 : decode cL_splits 289 = .ok (.if_icmp .ne 102, 3) := by decide +kernel
theorem dL_splits_292 : decode cL_splits 292 = .ok (.aload_n 0, 1) := by decide +kernel
theorem dL_splits_293 : decode cL_splits 293 = .ok (.iconst 1, 1) := by decide +kernel
theorem dL_splits_294 : decode cL_splits 294 = .ok (.iconst 0, 1) := by decide +kernel
theorem dL_splits_295 : decode cL_splits 295 = .ok (.iconst 5, 1) := by decide +kernel
theorem dL_splits_296 : decode cL_splits 296 = .ok (.invokevirtual 24, 3) := by decide +kernel
theorem dL_splits_299 : decode cL_splits 299 = .ok (.iconst 3, 1) := by decide +kernel
theorem dL_splits_300 : decode cL_splits 300 = .ok (.if_icmp .ne 91, 3) := by decide +kernel
theorem dL_splits_303 : decode cL_splits 303 = .ok (.aload_n 0, 1) := by decide +kernel
theorem dL_splits_304 : decode cL_splits 304 = .ok (.iconst 1, 1) := by decide +kernel
theorem dL_splits_305 : decode cL_splits 305 = .ok (.sipush 300, 3) := by decide +kernel
theorem dL_splits_308 : decode cL_splits 308 = .ok (.invokevirtual 39, 3) := by decide +kernel
theorem dL_splits_311 : decode cL_splits 311 = .ok (.bipush 37, 2) := by decide +kernel
theorem dL_splits_313 : decode cL_splits 313 = .ok (.if_icmp .ne 78, 3) := by decide +kernel
theorem dL_splits_316 : decode cL_splits 316 = .ok (.aload_n 0, 1) := by decide +kernel
theorem dL_splits_317 : decode cL_splits 317 = .ok (.iconst 1, 1) := by decide +kernel
theorem dL_splits_318 : decode cL_splits 318 = .ok (.sipush 1824, 3) := by decide +kernel
theorem dL_splits_321 : decode cL_splits 321 = .ok (.iconst 4, 1) := by decide +kernel
theorem dL_splits_322 : decode cL_splits 322 = .ok (.invokevirtual 24, 3) := by decide +kernel
theorem dL_splits_325 : decode cL_splits 325 = .ok (.iconst 4, 1) := by decide +kernel
theorem dL_splits_326 : decode cL_splits 326 = .ok (.if_icmp .ne 65, 3) := by decide +kernel
theorem dL_splits_329 : decode cL_splits 329 = .ok (.aload_n 0, 1) := by decide +kernel
theorem dL_splits_330 : decode cL_splits 330 = .ok (.iconst 2, 1) := by decide +kernel
theorem dL_splits_331 : decode cL_splits 331 = .ok (.iconst 1, 1) := by decide +kernel
theorem dL_splits_332 : decode cL_splits 332 = .ok (.iconst 5, 1) := by decide +kernel
theorem dL_splits_333 : decode cL_splits 333 = .ok (.iconst 2, 1) := by decide +kernel
theorem dL_splits_334 : decode cL_splits 334 = .ok (.iconst 0, 1) := by decide +kernel
theorem dL_splits_335 : decode cL_splits 335 = .ok (.invokestatic 97, 3) := by decide +kernel
theorem dL_splits_338 : decode cL_splits 338 = .ok (.bipush (-93), 2) := by decide +kernel
theorem dL_splits_340 : decode cL_splits 340 = .ok (.if_icmp .ne 51, 3) := by decide +kernel
theorem dL_splits_343 : decode cL_splits 343 = .ok (.aload_n 0, 1) := by decide +kernel
theorem dL_splits_344 : decode cL_splits 344 = .ok (.iconst 1, 1) := by decide +kernel
theorem dL_splits_345 : decode cL_splits 345 = .ok (.sipush 1823, 3) := by decide +kernel
theorem dL_splits_348 : decode cL_splits 348 = .ok (.invokevirtual 36, 3) := by decide +kernel
theorem dL_splits_351 : decode cL_splits 351 = .ok (.bipush 37, 2) := by decide +kernel
theorem dL_splits_353 : decode cL_splits 353 = .ok (.if_icmp .ne 38, 3) := by decide +kernel
theorem dL_splits_356 : decode cL_splits 356 = .ok (.aload_n 0, 1) := by decide +kernel
theorem dL_splits_357 : decode cL_splits 357 = .ok (.iconst 1, 1) := by decide +kernel
theorem dL_splits_358 : decode cL_splits 358 = .ok (.sipush 1824, 3) := by decide +kernel
theorem dL_splits_361 : decode cL_splits 361 = .ok (.invokevirtual 36, 3) := by decide +kernel
theorem dL_splits_364 : decode cL_splits 364 = .ok (.sipush 148, 3) := by decide +kernel
theorem dL_splits_367 : decode cL_splits 367 = .ok (.if_icmp .ne 24, 3) := by decide +kernel
theorem dL_splits_370 : decode cL_splits 370 = .ok (.aload_n 0, 1) := by decide +kernel
theorem dL_splits_371 : decode cL_splits 371 = .ok (.iconst 1, 1) := by decide +kernel
theorem dL_splits_372 : decode cL_splits 372 = .ok (.sipush 300, 3) := by decide +kernel
theorem dL_splits_375 : decode cL_splits 375 = .ok (.invokevirtual 39, 3) := by decide +kernel
theorem dL_splits_378 : decode cL_splits 378 = .ok (.sipush 148, 3) := by decide +kernel
theorem dL_splits_381 : decode cL_splits 381 = .ok (.if_icmp .ne 10, 3) := by decide +kernel
theorem dL_splits_384 : decode cL_splits 384 = .ok (.aload_n 0, 1) := by decide +kernel
theorem dL_splits_385 : decode cL_splits 385 = .ok (.invokestatic 102, 3) := by decide +kernel
theorem dL_splits_388 : decode cL_splits 388 = .ok (.ifCond .ne 5, 3) := by decide +kernel
theorem dL_splits_391 : decode cL_splits 391 = .ok (.iconst 0, 1) := by decide +kernel
theorem dL_splits_392 : decode cL_splits 392 = .ok (.ireturn, 1) := by decide +kernel
theorem dL_splits_393 : decode cL_splits 393 = .ok (.aload_n 0, 1) := by decide +kernel
theorem dL_splits_394 : decode cL_splits 394 = .ok (.iconst 2, 1) := by decide +kernel
theorem dL_splits_395 : decode cL_splits 395 = .ok (.iconst 0, 1) := by decide +kernel
theorem dL_splits_396 : decode cL_splits 396 = .ok (.iconst 3, 1) := by decide +kernel
theorem dL_splits_397 : decode cL_splits 397 = .ok (.bipush 100, 2) := by decide +kernel
theorem dL_splits_399 : decode cL_splits 399 = .ok (.invokevirtual 17, 3) := by decide +kernel
theorem dL_splits_402 : decode cL_splits 402 = .ok (.iconst 3, 1) := by decide +kernel
theorem dL_splits_403 : decode cL_splits 403 = .ok (.if_icmp .ne 308, 3) := by decide +kernel
theorem dL_splits_406 : decode cL_splits 406 = .ok (.aload_n 0, 1) := by decide +kernel
theorem dL_splits_407 : decode cL_splits 407 = .ok (.iconst 2, 1) := by decide +kernel
theorem dL_splits_408 : decode cL_splits 408 = .ok (.bipush 40, 2) := by decide +kernel
theorem dL_splits_410 : decode cL_splits 410 = .ok (.iconst 1, 1) := by decide +kernel
theorem dL_splits_411 : decode cL_splits 411 = .ok (.bipush 10, 2) := by decide +kernel
theorem dL_splits_413 : decode cL_splits 413 = .ok (.invokevirtual 21, 3) := by decide +kernel
theorem dL_splits_416 : decode cL_splits 416 = .ok (.iconst 4, 1) := by decide +kernel
theorem dL_splits_417 : decode cL_splits 417 = .ok (.if_icmp .ne 294, 3) := by decide +kernel
theorem dL_splits_420 : decode cL_splits 420 = .ok (.aload_n 0, 1) := by decide +kernel
theorem dL_splits_421 : decode cL_splits 421 = .ok (.iconst 2, 1) := by decide +kernel
theorem dL_splits_422 : decode cL_splits 422 = .ok (.bipush 41, 2) := by decide +kernel
theorem dL_splits_424 : decode cL_splits 424 = .ok (.iconst 1, 1) := by decide +kernel
theorem dL_splits_425 : decode cL_splits 425 = .ok (.bipush 10, 2) := by decide +kernel
theorem dL_splits_427 : decode cL_splits 427 = .ok (.invokevirtual 21, 3) := by decide +kernel
theorem dL_splits_430 : decode cL_splits 430 = .ok (.iconst 5, 1) := by decide +kernel
theorem dL_splits_431 : decode cL_splits 431 = .ok (.if_icmp .ne 280, 3) := by decide +kernel
theorem dL_splits_434 : decode cL_splits 434 = .ok (.aload_n 0, 1) := by decide +kernel
theorem dL_splits_435 : decode cL_splits 435 = .ok (.iconst 2, 1) := by decide +kernel
theorem dL_splits_436 : decode cL_splits 436 = .ok (.bipush 42, 2) := by decide +kernel
theorem dL_splits_438 : decode cL_splits 438 = .ok (.iconst 1, 1) := by decide +kernel
theorem dL_splits_439 : decode cL_splits 439 = .ok (.bipush 10, 2) := by decide +kernel
theorem dL_splits_441 : decode cL_splits 441 = .ok (.invokevirtual 21, 3) := by decide +kernel
theorem dL_splits_444 : decode cL_splits 444 = .ok (.bipush 6, 2) := by decide +kernel
theorem dL_splits_446 : decode cL_splits 446 = .ok (.if_icmp .ne 265, 3) := by decide +kernel
theorem dL_splits_449 : decode cL_splits 449 = .ok (.aload_n 0, 1) := by decide +kernel
theorem dL_splits_450 : decode cL_splits 450 = .ok (.iconst 2, 1) := by decide +kernel
theorem dL_splits_451 : decode cL_splits 451 = .ok (.iconst 0, 1) := by decide +kernel
theorem dL_splits_452 : decode cL_splits 452 = .ok (.iconst 2, 1) := by decide +kernel
theorem dL_splits_453 : decode cL_splits 453 = .ok (.bipush 40, 2) := by decide +kernel
theorem dL_splits_455 : decode cL_splits 455 = .ok (.iconst (-1), 1) := by decide +kernel
theorem dL_splits_456 : decode cL_splits 456 = .ok (.iconst 1, 1) := by decide +kernel
theorem dL_splits_457 : decode cL_splits 457 = .ok (.bipush 33, 2) := by decide +kernel
theorem dL_splits_459 : decode cL_splits 459 = .ok (.bipush 10, 2) := by decide +kernel
theorem dL_splits_461 : decode cL_splits 461 = .ok (.invokestatic 106, 3) := by decide +kernel
theorem dL_splits_464 : decode cL_splits 464 = .ok (.ifCond .eq 247, 3) := by decide +kernel
theorem dL_splits_467 : decode cL_splits 467 = .ok (.aload_n 0, 1) := by decide +kernel
theorem dL_splits_468 : decode cL_splits 468 = .ok (.iconst 2, 1) := by decide +kernel
theorem dL_splits_469 : decode cL_splits 469 = .ok (.iconst 1, 1) := by decide +kernel
theorem dL_splits_470 : decode cL_splits 470 = .ok (.iconst 2, 1) := by decide +kernel
theorem dL_splits_471 : decode cL_splits 471 = .ok (.bipush 41, 2) := by decide +kernel
theorem dL_splits_473 : decode cL_splits 473 = .ok (.iconst (-1), 1) := by decide +kernel
theorem dL_splits_474 : decode cL_splits 474 = .ok (.iconst 1, 1) := by decide +kernel
theorem dL_splits_475 : decode cL_splits 475 = .ok (.bipush 33, 2) := by decide +kernel
theorem dL_splits_477 : decode cL_splits 477 = .ok (.bipush 10, 2) := by decide +kernel
theorem dL_splits_479 : decode cL_splits 479 = .ok (.invokestatic 106, 3) := by decide +kernel
theorem dL_splits_482 : decode cL_splits 482 = .ok (.ifCond .eq 229, 3) := by decide +kernel
theorem dL_splits_485 : decode cL_splits 485 = .ok (.aload_n 0, 1) := by decide +kernel
theorem dL_splits_486 : decode cL_splits 486 = .ok (.iconst 2, 1) := by decide +kernel
theorem dL_splits_487 : decode cL_splits 487 = .ok (.iconst 2, 1) := by decide +kernel
theorem dL_splits_488 : decode cL_splits 488 = .ok (.iconst 2, 1) := by decide +kernel
theorem dL_splits_489 : decode cL_splits 489 = .ok (.bipush 42, 2) := by decide +kernel
theorem dL_splits_491 : decode cL_splits 491 = .ok (.iconst (-1), 1) := by decide +kernel
theorem dL_splits_492 : decode cL_splits 492 = .ok (.iconst 1, 1) := by decide +kernel
theorem dL_splits_493 : decode cL_splits 493 = .ok (.bipush 34, 2) := by decide +kernel
theorem dL_splits_495 : decode cL_splits 495 = .ok (.bipush 10, 2) := by decide +kernel
theorem dL_splits_497 : decode cL_splits 497 = .ok (.invokestatic 106, 3) := by decide +kernel
theorem dL_splits_500 : decode cL_splits 500 = .ok (.ifCond .eq 211, 3) := by decide +kernel
theorem dL_splits_503 : decode cL_splits 503 = .ok (.aload_n 0, 1) := by decide +kernel
theorem dL_splits_504 : decode cL_splits 504 = .ok (.iconst 2, 1) := by decide +kernel
theorem dL_splits_505 : decode cL_splits 505 = .ok (.bipush 43, 2) := by decide +kernel
theorem dL_splits_507 : decode cL_splits 507 = .ok (.bipush 7, 2) := by decide +kernel
theorem dL_splits_509 : decode cL_splits 509 = .ok (.bipush 100, 2) := by decide +kernel
theorem dL_splits_511 : decode cL_splits 511 = .ok (.invokevirtual 17, 3) := by decide +kernel
theorem dL_splits_514 : decode cL_splits 514 = .ok (.bipush 7, 2) := by decide +kernel
theorem dL_splits_516 : decode cL_splits 516 = .ok (.if_icmp .ne 195, 3) := by decide +kernel
theorem dL_splits_519 : decode cL_splits 519 = .ok (.aload_n 0, 1) := by decide +kernel
theorem dL_splits_520 : decode cL_splits 520 = .ok (.iconst 2, 1) := by decide +kernel
theorem dL_splits_521 : decode cL_splits 521 = .ok (.invokevirtual 72, 3) := by decide +kernel
theorem dL_splits_524 : decode cL_splits 524 = .ok (.iconst 3, 1) := by decide +kernel
theorem dL_splits_525 : decode cL_splits 525 = .ok (.if_icmp .ne 186, 3) := by decide +kernel
theorem dL_splits_528 : decode cL_splits 528 = .ok (.aload_n 0, 1) := by decide +kernel
theorem dL_splits_529 : decode cL_splits 529 = .ok (.iconst 2, 1) := by decide +kernel
theorem dL_splits_530 : decode cL_splits 530 = .ok (.iconst 0, 1) := by decide +kernel
theorem dL_splits_531 : decode cL_splits 531 = .ok (.iconst 1, 1) := by decide +kernel
theorem dL_splits_532 : decode cL_splits 532 = .ok (.bipush 40, 2) := by decide +kernel
theorem dL_splits_534 : decode cL_splits 534 = .ok (.bipush 43, 2) := by decide +kernel
theorem dL_splits_536 : decode cL_splits 536 = .ok (.iconst 1, 1) := by decide +kernel
theorem dL_splits_537 : decode cL_splits 537 = .ok (.bipush 14, 2) := by decide +kernel
theorem dL_splits_539 : decode cL_splits 539 = .ok (.bipush 10, 2) := by decide +kernel
theorem dL_splits_541 : decode cL_splits 541 = .ok (.invokestatic 106, 3) := by decide +kernel
theorem dL_splits_544 : decode cL_splits 544 = .ok (.ifCond .eq 167, 3) := by decide +kernel
theorem dL_splits_547 : decode cL_splits 547 = .ok (.aload_n 0, 1) := by decide +kernel
theorem dL_splits_548 : decode cL_splits 548 = .ok (.iconst 2, 1) := by decide +kernel
theorem dL_splits_549 : decode cL_splits 549 = .ok (.iconst 1, 1) := by decide +kernel
theorem dL_splits_550 : decode cL_splits 550 = .ok (.iconst 1, 1) := by decide +kernel
theorem dL_splits_551 : decode cL_splits 551 = .ok (.bipush 41, 2) := by decide +kernel
theorem dL_splits_553 : decode cL_splits 553 = .ok (.bipush 43, 2) := by decide +kernel
theorem dL_splits_555 : decode cL_splits 555 = .ok (.iconst 1, 1) := by decide +kernel
theorem dL_splits_556 : decode cL_splits 556 = .ok (.bipush 14, 2) := by decide +kernel
theorem dL_splits_558 : decode cL_splits 558 = .ok (.bipush 10, 2) := by decide +kernel
theorem dL_splits_560 : decode cL_splits 560 = .ok (.invokestatic 106, 3) := by decide +kernel
theorem dL_splits_563 : decode cL_splits 563 = .ok (.ifCond .eq 148, 3) := by decide +kernel
theorem dL_splits_566 : decode cL_splits 566 = .ok (.aload_n 0, 1) := by decide +kernel
theorem dL_splits_567 : decode cL_splits 567 = .ok (.iconst 2, 1) := by decide +kernel
theorem dL_splits_568 : decode cL_splits 568 = .ok (.iconst 2, 1) := by decide +kernel
theorem dL_splits_569 : decode cL_splits 569 = .ok (.iconst 1, 1) := by decide +kernel
theorem dL_splits_570 : decode cL_splits 570 = .ok (.bipush 42, 2) := by decide +kernel
theorem dL_splits_572 : decode cL_splits 572 = .ok (.bipush 43, 2) := by decide +kernel
theorem dL_splits_574 : decode cL_splits 574 = .ok (.iconst 1, 1) := by decide +kernel
theorem dL_splits_575 : decode cL_splits 575 = .ok (.bipush 14, 2) := by decide +kernel
theorem dL_splits_577 : decode cL_splits 577 = .ok (.bipush 10, 2) := by decide +kernel
theorem dL_splits_579 : decode cL_splits 579 = .ok (.invokestatic 106, 3) := by decide +kernel
theorem dL_splits_582 : decode cL_splits 582 = .ok (.ifCond .eq 129, 3) := by decide +kernel
theorem dL_splits_585 : decode cL_splits 585 = .ok (.aload_n 0, 1) := by decide +kernel
theorem dL_splits_586 : decode cL_splits 586 = .ok (.iconst 2, 1) := by decide +kernel
theorem dL_splits_587 : decode cL_splits 587 = .ok (.bipush 42, 2) := by decide +kernel
theorem dL_splits_589 : decode cL_splits 589 = .ok (.invokevirtual 39, 3) := by decide +kernel
theorem dL_splits_592 : decode cL_splits 592 = .ok (.iconst 3, 1) := by decide +kernel
theorem dL_splits_593 : decode cL_splits 593 = .ok (.if_icmp .ne 118, 3) := by decide +kernel
theorem dL_splits_596 : decode cL_splits 596 = .ok (.aload_n 0, 1) := by decide +kernel
theorem dL_splits_597 : decode cL_splits 597 = .ok (.iconst 2, 1) := by decide +kernel
theorem dL_splits_598 : decode cL_splits 598 = .ok (.bipush 43, 2) := by decide +kernel
theorem dL_splits_600 : decode cL_splits 600 = .ok (.invokevirtual 39, 3) := by decide +kernel
theorem dL_splits_603 : decode cL_splits 603 = .ok (.bipush 7, 2) := by decide +kernel
theorem dL_splits_605 : decode cL_splits 605 = .ok (.if_icmp .ne 106, 3) := by decide +kernel
theorem dL_splits_608 : decode cL_splits 608 = .ok (.aload_n 0, 1) := by decide +kernel
theorem dL_splits_609 : decode cL_splits 609 = .ok (.iconst 2, 1) := by decide +kernel
theorem dL_splits_610 : decode cL_splits 610 = .ok (.bipush 43, 2) := by decide +kernel
theorem dL_splits_612 : decode cL_splits 612 = .ok (.invokevirtual 42, 3) := by decide +kernel
theorem dL_splits_615 : decode cL_splits 615 = .ok (.sipush 158, 3) := by decide +kernel
theorem dL_splits_618 : decode cL_splits 618 = .ok (.if_icmp .ne 93, 3) := by decide +kernel
theorem dL_splits_621 : decode cL_splits 621 = .ok (.aload_n 0, 1) := by decide +kernel
theorem dL_splits_622 : decode cL_splits 622 = .ok (.iconst 1, 1) := by decide +kernel
theorem dL_splits_623 : decode cL_splits 623 = .ok (.iconst 2, 1) := by decide +kernel
theorem dL_splits_624 : decode cL_splits 624 = .ok (.bipush 40, 2) := by decide +kernel
theorem dL_splits_626 : decode cL_splits 626 = .ok (.iconst 2, 1) := by decide +kernel
theorem dL_splits_627 : decode cL_splits 627 = .ok (.iconst 5, 1) := by decide +kernel
theorem dL_splits_628 : decode cL_splits 628 = .ok (.invokestatic 97, 3) := by decide +kernel
theorem dL_splits_631 : decode cL_splits 631 = .ok (.bipush (-93), 2) := by decide +kernel
theorem dL_splits_633 : decode cL_splits 633 = .ok (.if_icmp .ne 78, 3) := by decide +kernel
theorem dL_splits_636 : decode cL_splits 636 = .ok (.aload_n 0, 1) := by decide +kernel
theorem dL_splits_637 : decode cL_splits 637 = .ok (.iconst 2, 1) := by decide +kernel
theorem dL_splits_638 : decode cL_splits 638 = .ok (.bipush 10, 2) := by decide +kernel
theorem dL_splits_640 : decode cL_splits 640 = .ok (.iconst 2, 1) := by decide +kernel
theorem dL_splits_641 : decode cL_splits 641 = .ok (.iconst 0, 1) := by decide +kernel
theorem dL_splits_642 : decode cL_splits 642 = .ok (.invokevirtual 17, 3) := by decide +kernel
theorem dL_splits_645 : decode cL_splits 645 = .ok (.bipush 8, 2) := by decide +kernel
theorem dL_splits_647 : decode cL_splits 647 = .ok (.if_icmp .ne 64, 3) := by decide +kernel
theorem dL_splits_650 : decode cL_splits 650 = .ok (.aload_n 0, 1) := by decide +kernel
theorem dL_splits_651 : decode cL_splits 651 = .ok (.iconst 2, 1) := by decide +kernel
theorem dL_splits_652 : decode cL_splits 652 = .ok (.bipush 40, 2) := by decide +kernel
theorem dL_splits_654 : decode cL_splits 654 = .ok (.iconst 2, 1) := by decide +kernel
theorem dL_splits_655 : decode cL_splits 655 = .ok (.iconst 5, 1) := by decide +kernel
theorem dL_splits_656 : decode cL_splits 656 = .ok (.invokevirtual 21, 3) := by decide +kernel
theorem dL_splits_659 : decode cL_splits 659 = .ok (.bipush 9, 2) := by decide +kernel
theorem dL_splits_661 : decode cL_splits 661 = .ok (.if_icmp .ne 50, 3) := by decide +kernel
theorem dL_splits_664 : decode cL_splits 664 = .ok (.aload_n 0, 1) := by decide +kernel
theorem dL_splits_665 : decode cL_splits 665 = .ok (.iconst 2, 1) := by decide +kernel
theorem dL_splits_666 : decode cL_splits 666 = .ok (.invokevirtual 72, 3) := by decide +kernel
theorem dL_splits_669 : decode cL_splits 669 = .ok (.iconst 3, 1) := by decide +kernel
theorem dL_splits_670 : decode cL_splits 670 = .ok (.if_icmp .ne 41, 3) := by decide +kernel
theorem dL_splits_673 : decode cL_splits 673 = .ok (.aload_n 0, 1) := by decide +kernel
theorem dL_splits_674 : decode cL_splits 674 = .ok (.iconst 2, 1) := by decide +kernel
theorem dL_splits_675 : decode cL_splits 675 = .ok (.iconst 0, 1) := by decide +kernel
theorem dL_splits_676 : decode cL_splits 676 = .ok (.iconst 1, 1) := by decide +kernel
theorem dL_splits_677 : decode cL_splits 677 = .ok (.bipush 40, 2) := by decide +kernel
theorem dL_splits_679 : decode cL_splits 679 = .ok (.bipush 43, 2) := by decide +kernel
theorem dL_splits_681 : decode cL_splits 681 = .ok (.iconst 3, 1) := by decide +kernel
theorem dL_splits_682 : decode cL_splits 682 = .ok (.bipush 42, 2) := by decide +kernel
theorem dL_splits_684 : decode cL_splits 684 = .ok (.bipush 15, 2) := by decide +kernel
theorem dL_splits_686 : decode cL_splits 686 = .ok (.invokestatic 106, 3) := by decide +kernel
theorem dL_splits_689 : decode cL_splits 689 = .ok (.ifCond .eq 22, 3) := by decide +kernel
theorem dL_splits_692 : decode cL_splits 692 = .ok (.aload_n 0, 1) := by decide +kernel
theorem dL_splits_693 : decode cL_splits 693 = .ok (.iconst 2, 1) := by decide +kernel
theorem dL_splits_694 : decode cL_splits 694 = .ok (.iconst 1, 1) := by decide +kernel
theorem dL_splits_695 : decode cL_splits 695 = .ok (.iconst 1, 1) := by decide +kernel
theorem dL_splits_696 : decode cL_splits 696 = .ok (.bipush 41, 2) := by decide +kernel
theorem dL_splits_698 : decode cL_splits 698 = .ok (.bipush 43, 2) := by decide +kernel
theorem dL_splits_700 : decode cL_splits 700 = .ok (.iconst 1, 1) := by decide +kernel
theorem dL_splits_701 : decode cL_splits 701 = .ok (.bipush 15, 2) := by decide +kernel
theorem dL_splits_703 : decode cL_splits 703 = .ok (.bipush 10, 2) := by decide +kernel
theorem dL_splits_705 : decode cL_splits 705 = .ok (.invokestatic 106, 3) := by decide +kernel
theorem dL_splits_708 : decode cL_splits 708 = .ok (.ifCond .ne 5, 3) := by decide +kernel
theorem dL_splits_711 : decode cL_splits 711 = .ok (.iconst 0, 1) := by decide +kernel
theorem dL_splits_712 : decode cL_splits 712 = .ok (.ireturn, 1) := by decide +kernel
theorem dL_splits_713 : decode cL_splits 713 = .ok (.aload_n 0, 1) := by decide +kernel
theorem dL_splits_714 : decode cL_splits 714 = .ok (.iconst 2, 1) := by decide +kernel
theorem dL_splits_715 : decode cL_splits 715 = .ok (.invokevirtual 66, 3) := by decide +kernel
theorem dL_splits_718 : decode cL_splits 718 = .ok (.sipush 200, 3) := by decide +kernel
theorem dL_splits_721 : decode cL_splits 721 = .ok (.if_icmp .ne 27, 3) := by decide +kernel
theorem dL_splits_724 : decode cL_splits 724 = .ok (.aload_n 0, 1) := by decide +kernel
theorem dL_splits_725 : decode cL_splits 725 = .ok (.iconst 2, 1) := by decide +kernel
theorem dL_splits_726 : decode cL_splits 726 = .ok (.invokevirtual 69, 3) := by decide +kernel
theorem dL_splits_729 : decode cL_splits 729 = .ok (.aload_n 0, 1) := by decide +kernel
theorem dL_splits_730 : decode cL_splits 730 = .ok (.iconst 2, 1) := by decide +kernel
theorem dL_splits_731 : decode cL_splits 731 = .ok (.sipush 1824, 3) := by decide +kernel
theorem dL_splits_734 : decode cL_splits 734 = .ok (.invokevirtual 42, 3) := by decide +kernel
theorem dL_splits_737 : decode cL_splits 737 = .ok (.iadd, 1) := by decide +kernel
theorem dL_splits_738 : decode cL_splits 738 = .ok (.sipush 200, 3) := by decide +kernel
theorem dL_splits_741 : decode cL_splits 741 = .ok (.if_icmp .ne 7, 3) := by decide +kernel
theorem dL_splits_744 : decode cL_splits 744 = .ok (.iconst 1, 1) := by decide +kernel
theorem dL_splits_745 : decode cL_splits 745 = .ok (.goto 4, 3) := by decide +kernel
theorem dL_splits_748 : decode cL_splits 748 = .ok (.iconst 0, 1) := by decide +kernel
theorem dL_splits_749 : decode cL_splits 749 = .ok (.ireturn, 1) := by decide +kernel

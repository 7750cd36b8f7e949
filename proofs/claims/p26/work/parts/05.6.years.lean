theorem dL_years_0 : decode cL_years 0 = .ok (.new 8, 3) := by decide +kernel
theorem dL_years_3 : decode cL_years 3 = .ok (.dup, 1) := by decide +kernel
theorem dL_years_4 : decode cL_years 4 = .ok (.invokespecial 101, 3) := by decide +kernel
theorem dL_years_7 : decode cL_years 7 = .ok (.astore_n 0, 1) := by decide +kernel
theorem dL_years_8 : decode cL_years 8 = .ok (.aload_n 0, 1) := by decide +kernel
theorem dL_years_9 : decode cL_years 9 = .ok (.iconst 2, 1) := by decide +kernel
theorem dL_years_10 : decode cL_years 10 = .ok (.iconst 0, 1) := by decide +kernel
theorem dL_years_11 : decode cL_years 11 = .ok (.bipush 10, 2) := by decide +kernel
theorem dL_years_13 : decode cL_years 13 = .ok (.sipush 1000, 3) := by decide +kernel
theorem dL_years_16 : decode cL_years 16 = .ok (.invokevirtual 17, 3) := by decide +kernel
theorem dL_years_19 : decode cL_years 19 = .ok (.ifCond .ne 294, 3) := by decide +kernel
theorem dL_years_22 : decode cL_years 22 = .ok (.aload_n 0, 1) := by decide +kernel
theorem dL_years_23 : decode cL_years 23 = .ok (.iconst 2, 1) := by decide +kernel
theorem dL_years_24 : decode cL_years 24 = .ok (.bipush 100, 2) := by decide +kernel
theorem dL_years_26 : decode cL_years 26 = .ok (.iconst 5, 1) := by decide +kernel
theorem dL_years_27 : decode cL_years 27 = .ok (.bipush 100, 2) := by decide +kernel
theorem dL_years_29 : decode cL_years 29 = .ok (.invokevirtual 21, 3) := by decide +kernel
theorem dL_years_32 : decode cL_years 32 = .ok (.iconst 1, 1) := by decide +kernel
theorem dL_years_33 : decode cL_years 33 = .ok (.if_icmp .ne 280, 3) := by decide +kernel
theorem dL_years_36 : decode cL_years 36 = .ok (.aload_n 0, 1) := by decide +kernel
theorem dL_years_37 : decode cL_years 37 = .ok (.iconst 2, 1) := by decide +kernel
theorem dL_years_38 : decode cL_years 38 = .ok (.sipush 400, 3) := by decide +kernel
theorem dL_years_41 : decode cL_years 41 = .ok (.iconst 5, 1) := by decide +kernel
theorem dL_years_42 : decode cL_years 42 = .ok (.sipush 900, 3) := by decide +kernel
theorem dL_years_45 : decode cL_years 45 = .ok (.invokevirtual 21, 3) := by decide +kernel
theorem dL_years_48 : decode cL_years 48 = .ok (.iconst 2, 1) := by decide +kernel
theorem dL_years_49 : decode cL_years 49 = .ok (.if_icmp .ne 264, 3) := by decide +kernel
theorem dL_years_52 : decode cL_years 52 = .ok (.aload_n 0, 1) := by decide +kernel
theorem dL_years_53 : decode cL_years 53 = .ok (.iconst 0, 1) := by decide +kernel
theorem dL_years_54 : decode cL_years 54 = .ok (.invokevirtual 75, 3) := by decide +kernel
theorem dL_years_57 : decode cL_years 57 = .ok (.sipush (-400), 3) := by decide +kernel
theorem dL_years_60 : decode cL_years 60 = .ok (.if_icmp .ne 253, 3) := by decide +kernel
theorem dL_years_63 : decode cL_years 63 = .ok (.aload_n 0, 1) := by decide +kernel
theorem dL_years_64 : decode cL_years 64 = .ok (.iconst 0, 1) := by decide +kernel
theorem dL_years_65 : decode cL_years 65 = .ok (.invokevirtual 81, 3) := by decide +kernel
theorem dL_years_68 : decode cL_years 68 = .ok (.ifCond .ne 245, 3) := by decide +kernel
theorem dL_years_71 : decode cL_years 71 = .ok (.aload_n 0, 1) := by decide +kernel
theorem dL_years_72 : decode cL_years 72 = .ok (.iconst 0, 1) := by decide +kernel
theorem dL_years_73 : decode cL_years 73 = .ok (.invokevirtual 78, 3) := by decide +kernel
theorem dL_years_76 : decode cL_years 76 = .ok (.sipush 400, 3) := by decide +kernel
theorem dL_years_79 : decode cL_years 79 = .ok (.if_icmp .ne 234, 3) := by decide +kernel
theorem dL_years_82 : decode cL_years 82 = .ok (.aload_n 0, 1) := by decide +kernel
theorem dL_years_83 : decode cL_years 83 = .ok (.iconst 1, 1) := by decide +kernel
theorem dL_years_84 : decode cL_years 84 = .ok (.invokevirtual 75, 3) := by decide +kernel
theorem dL_years_87 : decode cL_years 87 = .ok (.sipush 400, 3) := by decide +kernel
theorem dL_years_90 : decode cL_years 90 = .ok (.if_icmp .ne 223, 3) := by decide +kernel
theorem dL_years_93 : decode cL_years 93 = .ok (.aload_n 0, 1) := by decide +kernel
theorem dL_years_94 : decode cL_years 94 = .ok (.iconst 1, 1) := by decide +kernel
theorem dL_years_95 : decode cL_years 95 = .ok (.invokevirtual 81, 3) := by decide +kernel
theorem dL_years_98 : decode cL_years 98 = .ok (.ifCond .ne 215, 3) := by decide +kernel
theorem dL_years_101 : decode cL_years 101 = .ok (.aload_n 0, 1) := by decide +kernel
theorem dL_years_102 : decode cL_years 102 = .ok (.iconst 1, 1) := by decide +kernel
theorem dL_years_103 : decode cL_years 103 = .ok (.invokevirtual 78, 3) := by decide +kernel
theorem dL_years_106 : decode cL_years 106 = .ok (.ifCond .ne 207, 3) := by decide +kernel
theorem dL_years_109 : decode cL_years 109 = .ok (.aload_n 0, 1) := by decide +kernel
theorem dL_years_110 : decode cL_years 110 = .ok (.iconst 1, 1) := by decide +kernel
theorem dL_years_111 : decode cL_years 111 = .ok (.sipush 150, 3) := by decide +kernel
theorem dL_years_114 : decode cL_years 114 = .ok (.invokevirtual 28, 3) := by decide +kernel
theorem dL_years_117 : decode cL_years 117 = .ok (.ifCond .ne 196, 3) := by decide +kernel
theorem dL_years_120 : decode cL_years 120 = .ok (.aload_n 0, 1) := by decide +kernel
theorem dL_years_121 : decode cL_years 121 = .ok (.iconst 1, 1) := by decide +kernel
theorem dL_years_122 : decode cL_years 122 = .ok (.invokevirtual 81, 3) := by decide +kernel
theorem dL_years_125 : decode cL_years 125 = .ok (.ifCond .ne 188, 3) := by decide +kernel
theorem dL_years_128 : decode cL_years 128 = .ok (.aload_n 0, 1) := by decide +kernel
theorem dL_years_129 : decode cL_years 129 = .ok (.iconst 1, 1) := by decide +kernel
theorem dL_years_130 : decode cL_years 130 = .ok (.invokevirtual 78, 3) := by decide +kernel
theorem dL_years_133 : decode cL_years 133 = .ok (.sipush 150, 3) := by decide +kernel
theorem dL_years_136 : decode cL_years 136 = .ok (.if_icmp .ne 177, 3) := by decide +kernel
theorem dL_years_139 : decode cL_years 139 = .ok (.aload_n 0, 1) := by decide +kernel
theorem dL_years_140 : decode cL_years 140 = .ok (.iconst 0, 1) := by decide +kernel
theorem dL_years_141 : decode cL_years 141 = .ok (.sipush 800, 3) := by decide +kernel
theorem dL_years_144 : decode cL_years 144 = .ok (.iconst 1, 1) := by decide +kernel
theorem dL_years_145 : decode cL_years 145 = .ok (.iconst 0, 1) := by decide +kernel
theorem dL_years_146 : decode cL_years 146 = .ok (.invokevirtual 17, 3) := by decide +kernel
theorem dL_years_149 : decode cL_years 149 = .ok (.iconst 3, 1) := by decide +kernel
theorem dL_years_150 : decode cL_years 150 = .ok (.if_icmp .ne 163, 3) := by decide +kernel
theorem dL_years_153 : decode cL_years 153 = .ok (.aload_n 0, 1) := by decide +kernel
theorem dL_years_154 : decode cL_years 154 = .ok (.iconst 0, 1) := by decide +kernel
theorem dL_years_155 : decode cL_years 155 = .ok (.sipush 900, 3) := by decide +kernel
theorem dL_years_158 : decode cL_years 158 = .ok (.iconst 1, 1) := by decide +kernel
theorem dL_years_159 : decode cL_years 159 = .ok (.sipush 500, 3) := by decide +kernel
theorem dL_years_162 : decode cL_years 162 = .ok (.invokevirtual 21, 3) := by decide +kernel
theorem dL_years_165 : decode cL_years 165 = .ok (.iconst 4, 1) := by decide +kernel
theorem dL_years_166 : decode cL_years 166 = .ok (.if_icmp .ne 147, 3) := by decide +kernel
theorem dL_years_169 : decode cL_years 169 = .ok (.aload_n 0, 1) := by decide +kernel
theorem dL_years_170 : decode cL_years 170 = .ok (.iconst 0, 1) := by decide +kernel
theorem dL_years_171 : decode cL_years 171 = .ok (.iconst 2, 1) := by decide +kernel
theorem dL_years_172 : decode cL_years 172 = .ok (.invokevirtual 45, 3) := by decide +kernel
theorem dL_years_175 : decode cL_years 175 = .ok (.sipush 500, 3) := by decide +kernel
theorem dL_years_178 : decode cL_years 178 = .ok (.if_icmp .ne 135, 3) := by decide +kernel
theorem dL_years_181 : decode cL_years 181 = .ok (.aload_n 0, 1) := by decide +kernel
theorem dL_years_182 : decode cL_years 182 = .ok (.iconst 2, 1) := by decide +kernel
theorem dL_years_183 : decode cL_years 183 = .ok (.invokevirtual 75, 3) := by decide +kernel
theorem dL_years_186 : decode cL_years 186 = .ok (.sipush 500, 3) := by decide +kernel
theorem dL_years_189 : decode cL_years 189 = .ok (.if_icmp .ne 124, 3) := by decide +kernel
theorem dL_years_192 : decode cL_years 192 = .ok (.aload_n 0, 1) := by decide +kernel
theorem dL_years_193 : decode cL_years 193 = .ok (.iconst 2, 1) := by decide +kernel
theorem dL_years_194 : decode cL_years 194 = .ok (.invokevirtual 81, 3) := by decide +kernel
theorem dL_years_197 : decode cL_years 197 = .ok (.sipush 350, 3) := by decide +kernel
theorem dL_years_200 : decode cL_years 200 = .ok (.if_icmp .ne 113, 3) := by decide +kernel
theorem dL_years_203 : decode cL_years 203 = .ok (.aload_n 0, 1) := by decide +kernel
theorem dL_years_204 : decode cL_years 204 = .ok (.iconst 2, 1) := by decide +kernel
theorem dL_years_205 : decode cL_years 205 = .ok (.invokevirtual 78, 3) := by decide +kernel
theorem dL_years_208 : decode cL_years 208 = .ok (.ifCond .ne 105, 3) := by decide +kernel
theorem dL_years_211 : decode cL_years 211 = .ok (.aload_n 0, 1) := by decide +kernel
theorem dL_years_212 : decode cL_years 212 = .ok (.iconst 4, 1) := by decide +kernel
theorem dL_years_213 : decode cL_years 213 = .ok (.invokevirtual 78, 3) := by decide +kernel
theorem dL_years_216 : decode cL_years 216 = .ok (.ifCond .ne 97, 3) := by decide +kernel
theorem dL_years_219 : decode cL_years 219 = .ok (.aload_n 0, 1) := by decide +kernel
theorem dL_years_220 : decode cL_years 220 = .ok (.iconst 2, 1) := by decide +kernel
theorem dL_years_221 : decode cL_years 221 = .ok (.sipush 600, 3) := by decide +kernel
theorem dL_years_224 : decode cL_years 224 = .ok (.invokevirtual 28, 3) := by decide +kernel
theorem dL_years_227 : decode cL_years 227 = .ok (.ifCond .ne 86, 3) := by decide +kernel
theorem dL_years_230 : decode cL_years 230 = .ok (.aload_n 0, 1) := by decide +kernel
theorem dL_years_231 : decode cL_years 231 = .ok (.iconst 2, 1) := by decide +kernel
theorem dL_years_232 : decode cL_years 232 = .ok (.invokevirtual 81, 3) := by decide +kernel
theorem dL_years_235 : decode cL_years 235 = .ok (.ifCond .ne 78, 3) := by decide +kernel
theorem dL_years_238 : decode cL_years 238 = .ok (.aload_n 0, 1) := by decide +kernel
theorem dL_years_239 : decode cL_years 239 = .ok (.iconst 2, 1) := by decide +kernel
theorem dL_years_240 : decode cL_years 240 = .ok (.invokevirtual 78, 3) := by decide +kernel
theorem dL_years_243 : decode cL_years 243 = .ok (.sipush 150, 3) := by decide +kernel
theorem dL_years_246 : decode cL_years 246 = .ok (.if_icmp .ne 67, 3) := by decide +kernel
theorem dL_years_249 : decode cL_years 249 = .ok (.aload_n 0, 1) := by decide +kernel
theorem dL_years_250 : decode cL_years 250 = .ok (.iconst 1, 1) := by decide +kernel
theorem dL_years_251 : decode cL_years 251 = .ok (.sipush 1000, 3) := by decide +kernel
theorem dL_years_254 : decode cL_years 254 = .ok (.invokevirtual 28, 3) := by decide +kernel
theorem dL_years_257 : decode cL_years 257 = .ok (.sipush 150, 3) := by decide +kernel
theorem dL_years_260 : decode cL_years 260 = .ok (.if_icmp .ne 53, 3) := by decide +kernel
theorem dL_years_263 : decode cL_years 263 = .ok (.aload_n 0, 1) := by decide +kernel
theorem dL_years_264 : decode cL_years 264 = .ok (.iconst 1, 1) := by decide +kernel
theorem dL_years_265 : decode cL_years 265 = .ok (.invokevirtual 78, 3) := by decide +kernel
theorem dL_years_268 : decode cL_years 268 = .ok (.sipush 400, 3) := by decide +kernel
theorem dL_years_271 : decode cL_years 271 = .ok (.if_icmp .ne 42, 3) := by decide +kernel
theorem dL_years_274 : decode cL_years 274 = .ok (.aload_n 0, 1) := by decide +kernel
theorem dL_years_275 : decode cL_years 275 = .ok (.iconst 4, 1) := by decide +kernel
theorem dL_years_276 : decode cL_years 276 = .ok (.invokevirtual 78, 3) := by decide +kernel
theorem dL_years_279 : decode cL_years 279 = .ok (.sipush 400, 3) := by decide +kernel
theorem dL_years_282 : decode cL_years 282 = .ok (.if_icmp .ne 31, 3) := by decide +kernel
theorem dL_years_285 : decode cL_years 285 = .ok (.aload_n 0, 1) := by decide +kernel
theorem dL_years_286 : decode cL_years 286 = .ok (.iconst 0, 1) := by decide +kernel
theorem dL_years_287 : decode cL_years 287 = .ok (.bipush 50, 2) := by decide +kernel
theorem dL_years_289 : decode cL_years 289 = .ok (.invokevirtual 28, 3) := by decide +kernel
theorem dL_years_292 : decode cL_years 292 = .ok (.ifCond .ne 21, 3) := by decide +kernel
theorem dL_years_295 : decode cL_years 295 = .ok (.aload_n 0, 1) := by decide +kernel
theorem dL_years_296 : decode cL_years 296 = .ok (.iconst 0, 1) := by decide +kernel
theorem dL_years_297 : decode cL_years 297 = .ok (.invokevirtual 78, 3) := by decide +kernel
theorem dL_years_300 : decode cL_years 300 = .ok (.sipush 400, 3) := by decide +kernel
theorem dL_years_303 : decode cL_years 303 = .ok (.if_icmp .ne 10, 3) := by decide +kernel
theorem dL_years_306 : decode cL_years 306 = .ok (.aload_n 0, 1) := by decide +kernel
theorem dL_years_307 : decode cL_years 307 = .ok (.invokestatic 102, 3) := by decide +kernel
theorem dL_years_310 : decode cL_years 310 = .ok (.ifCond .ne 5, 3) := by decide +kernel
theorem dL_years_313 : decode cL_years 313 = .ok (.iconst 0, 1) := by decide +kernel
theorem dL_years_314 : decode cL_years 314 = .ok (.ireturn, 1) := by decide +kernel
theorem dL_years_315 : decode cL_years 315 = .ok (.iconst 5, 1) := by decide +kernel
theorem dL_years_316 : decode cL_years 316 = .ok (.istore_n 1, 1) := by decide +kernel
theorem dL_years_317 : decode cL_years 317 = .ok (.iload_n 1, 1) := by decide +kernel
theorem dL_years_318 : decode cL_years 318 = .ok (.bipush 61, 2) := by decide +kernel
theorem dL_years_320 : decode cL_years 320 = .ok (.if_icmp .ge 38, 3) := by decide +kernel
theorem dL_years_323 : decode cL_years 323 = .ok (.aload_n 0, 1) := by decide +kernel
theorem dL_years_324 : decode cL_years 324 = .ok (.iconst 0, 1) := by decide +kernel
theorem dL_years_325 : decode cL_years 325 = .ok (.iconst 1, 1) := by decide +kernel
theorem dL_years_326 : decode cL_years 326 = .ok (.bipush 30, 2) := by decide +kernel
theorem dL_years_328 : decode cL_years 328 = .ok (.iload_n 1, 1) := by decide +kernel
theorem dL_years_329 : decode cL_years 329 = .ok (.imul, 1) := by decide +kernel
theorem dL_years_330 : decode cL_years 330 = .ok (.iconst 1, 1) := by decide +kernel
theorem dL_years_331 : decode cL_years 331 = .ok (.iload_n 1, 1) := by decide +kernel
theorem dL_years_332 : decode cL_years 332 = .ok (.invokestatic 97, 3) := by decide +kernel
theorem dL_years_335 : decode cL_years 335 = .ok (.iload_n 1, 1) := by decide +kernel
theorem dL_years_336 : decode cL_years 336 = .ok (.bipush 60, 2) := by decide +kernel
theorem dL_years_338 : decode cL_years 338 = .ok (.if_icmp .ge 7, 3) := by decide +kernel
theorem dL_years_341 : decode cL_years 341 = .ok (.iload_n 1, 1) := by decide +kernel
theorem dL_years_342 : decode cL_years 342 = .ok (.goto 5, 3) := by decide +kernel
theorem dL_years_345 : decode cL_years 345 = .ok (.bipush (-93), 2) := by decide +kernel
theorem dL_years_347 : decode cL_years 347 = .ok (.if_icmp .eq 5, 3) := by decide +kernel
theorem dL_years_350 : decode cL_years 350 = .ok (.iconst 0, 1) := by decide +kernel
theorem dL_years_351 : decode cL_years 351 = .ok (.ireturn, 1) := by decide +kernel
theorem dL_years_352 : decode cL_years 352 = .ok (.iinc 1 1, 3) := by decide +kernel
theorem dL_years_355 : decode cL_years 355 = .ok (.goto (-38), 3) := by decide +kernel
theorem dL_years_358 : decode cL_years 358 = .ok (.aload_n 0, 1) := by decide +kernel
theorem dL_years_359 : decode cL_years 359 = .ok (.iconst 1, 1) := by decide +kernel
theorem dL_years_360 : decode cL_years 360 = .ok (.iconst 1, 1) := by decide +kernel
theorem dL_years_361 : decode cL_years 361 = .ok (.sipush 1824, 3) := by decide +kernel
theorem dL_years_364 : decode cL_years 364 = .ok (.iconst 1, 1) := by decide +kernel
theorem dL_years_365 : decode cL_years 365 = .ok (.iconst 0, 1) := by decide +kernel
theorem dL_years_366 : decode cL_years 366 = .ok (.invokestatic 97, 3) := by decide +kernel
theorem dL_years_369 : decode cL_years 369 = .ok (.bipush (-93), 2) := by decide +kernel
theorem dL_years_371 : decode cL_years 371 = .ok (.if_icmp .ne 59, 3) := by decide +kernel
theorem dL_years_374 : decode cL_years 374 = .ok (.aload_n 0, 1) := by decide +kernel
theorem dL_years_375 : decode cL_years 375 = .ok (.bipush 59, 2) := by decide +kernel
theorem dL_years_377 : decode cL_years 377 = .ok (.invokestatic 92, 3) := by decide +kernel
theorem dL_years_380 : decode cL_years 380 = .ok (.ifCond .ne 50, 3) := by decide +kernel
theorem dL_years_383 : decode cL_years 383 = .ok (.aload_n 0, 1) := by decide +kernel
theorem dL_years_384 : decode cL_years 384 = .ok (.iconst 0, 1) := by decide +kernel
theorem dL_years_385 : decode cL_years 385 = .ok (.iconst 1, 1) := by decide +kernel
theorem dL_years_386 : decode cL_years 386 = .ok (.iconst 0, 1) := by decide +kernel
theorem dL_years_387 : decode cL_years 387 = .ok (.iconst 1, 1) := by decide +kernel
theorem dL_years_388 : decode cL_years 388 = .ok (.iconst 0, 1) := by decide +kernel
theorem dL_years_389 : decode cL_years 389 = .ok (.invokestatic 97, 3) := by decide +kernel
theorem dL_years_392 : decode cL_years 392 = .ok (.bipush (-93), 2) := by decide +kernel
theorem dL_years_394 : decode cL_years 394 = .ok (.if_icmp .ne 36, 3) := by decide +kernel
theorem dL_years_397 : decode cL_years 397 = .ok (.aload_n 0, 1) := by decide +kernel
theorem dL_years_398 : decode cL_years 398 = .ok (.invokevirtual 86, 3) := by decide +kernel
theorem dL_years_401 : decode cL_years 401 = .ok (.bipush 60, 2) := by decide +kernel
theorem dL_years_403 : decode cL_years 403 = .ok (.if_icmp .ne 27, 3) := by decide +kernel
theorem dL_years_406 : decode cL_years 406 = .ok (.aload_n 0, 1) := by decide +kernel
theorem dL_years_407 : decode cL_years 407 = .ok (.iconst 1, 1) := by decide +kernel
theorem dL_years_408 : decode cL_years 408 = .ok (.sipush 1824, 3) := by decide +kernel
theorem dL_years_411 : decode cL_years 411 = .ok (.invokevirtual 36, 3) := by decide +kernel
theorem dL_years_414 : decode cL_years 414 = .ok (.bipush 54, 2) := by decide +kernel
theorem dL_years_416 : decode cL_years 416 = .ok (.if_icmp .ne 14, 3) := by decide +kernel
theorem dL_years_419 : decode cL_years 419 = .ok (.aload_n 0, 1) := by decide +kernel
theorem dL_years_420 : decode cL_years 420 = .ok (.invokestatic 102, 3) := by decide +kernel
theorem dL_years_423 : decode cL_years 423 = .ok (.ifCond .eq 7, 3) := by decide +kernel
theorem dL_years_426 : decode cL_years 426 = .ok (.iconst 1, 1) := by decide +kernel
theorem dL_years_427 : decode cL_years 427 = .ok (.goto 4, 3) := by decide +kernel
theorem dL_years_430 : decode cL_years 430 = .ok (.iconst 0, 1) := by decide +kernel
theorem dL_years_431 : decode cL_years 431 = .ok (.ireturn, 1) := by decide +kernel

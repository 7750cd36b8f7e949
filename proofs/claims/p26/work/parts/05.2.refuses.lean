theorem dL_refuses_0 : decode cL_refuses 0 = .ok (.aload_n 0, 1) := by decide +kernel
theorem dL_refuses_1 : decode cL_refuses 1 = .ok (.invokevirtual 86, 3) := by decide +kernel
theorem dL_refuses_4 : decode cL_refuses 4 = .ok (.istore_n 1, 1) := by decide +kernel
theorem dL_refuses_5 : decode cL_refuses 5 = .ok (.aload_n 0, 1) := by decide +kernel
theorem dL_refuses_6 : decode cL_refuses 6 = .ok (.iconst 0, 1) := by decide +kernel
theorem dL_refuses_7 : decode cL_refuses 7 = .ok (.invokevirtual 75, 3) := by decide +kernel
theorem dL_refuses_10 : decode cL_refuses 10 = .ok (.istore_n 2, 1) := by decide +kernel
theorem dL_refuses_11 : decode cL_refuses 11 = .ok (.aload_n 0, 1) := by decide +kernel
theorem dL_refuses_12 : decode cL_refuses 12 = .ok (.iconst 0, 1) := by decide +kernel
theorem dL_refuses_13 : decode cL_refuses 13 = .ok (.sipush 1824, 3) := by decide +kernel
theorem dL_refuses_16 : decode cL_refuses 16 = .ok (.invokevirtual 36, 3) := by decide +kernel
theorem dL_refuses_19 : decode cL_refuses 19 = .ok (.istore_n 3, 1) := by decide +kernel
theorem dL_refuses_20 : decode cL_refuses 20 = .ok (.ldc 90, 2) := by decide +kernel
theorem dL_refuses_22 : decode cL_refuses 22 = .ok (.istore 4, 2) := by decide +kernel
theorem dL_refuses_24 : decode cL_refuses 24 = .ok (.iconst 0, 1) := by decide +kernel
theorem dL_refuses_25 : decode cL_refuses 25 = .ok (.istore 5, 2) := by decide +kernel
theorem dL_refuses_27 : decode cL_refuses 27 = .ok (.iload 5, 2) := by decide +kernel
theorem dL_refuses_29 : decode cL_refuses 29 = .ok (.iconst 4, 1) := by decide +kernel
theorem dL_refuses_30 : decode cL_refuses 30 = .ok (.if_icmp .ge 636, 3) := by decide +kernel
theorem dL_refuses_33 : decode cL_refuses 33 = .ok (.iload 5, 2) := by decide +kernel
theorem dL_refuses_35 : decode cL_refuses 35 = .ok (.ifCond .ne 7, 3) := by decide +kernel
theorem dL_refuses_38 : decode cL_refuses 38 = .ok (.iconst (-1), 1) := by decide +kernel
theorem dL_refuses_39 : decode cL_refuses 39 = .ok (.goto 19, 3) := by decide +kernel
theorem dL_refuses_42 : decode cL_refuses 42 = .ok (.iload 5, 2) := by decide +kernel
theorem dL_refuses_44 : decode cL_refuses 44 = .ok (.iconst 2, 1) := by decide +kernel
theorem dL_refuses_45 : decode cL_refuses 45 = .ok (.if_icmp .ne 8, 3) := by decide +kernel
theorem dL_refuses_48 : decode cL_refuses 48 = .ok (.iload 4, 2) := by decide +kernel
theorem dL_refuses_50 : decode cL_refuses 50 = .ok (.goto 8, 3) := by decide +kernel
theorem dL_refuses_53 : decode cL_refuses 53 = .ok (.iload 4, 2) := by decide +kernel
theorem dL_refuses_55 : decode cL_refuses 55 = .ok (.ineg, 1) := by decide +kernel
theorem dL_refuses_56 : decode cL_refuses 56 = .ok (.iconst 1, 1) := by decide +kernel
theorem dL_refuses_57 : decode cL_refuses 57 = .ok (.isub, 1) := by decide +kernel
theorem dL_refuses_58 : decode cL_refuses 58 = .ok (.istore 6, 2) := by decide +kernel
theorem dL_refuses_60 : decode cL_refuses 60 = .ok (.iload 5, 2) := by decide +kernel
theorem dL_refuses_62 : decode cL_refuses 62 = .ok (.iconst 1, 1) := by decide +kernel
theorem dL_refuses_63 : decode cL_refuses 63 = .ok (.if_icmp .ne 7, 3) := by decide +kernel
theorem dL_refuses_66 : decode cL_refuses 66 = .ok (.iconst 3, 1) := by decide +kernel
theorem dL_refuses_67 : decode cL_refuses 67 = .ok (.goto 5, 3) := by decide +kernel
theorem dL_refuses_70 : decode cL_refuses 70 = .ok (.iload 6, 2) := by decide +kernel
theorem dL_refuses_72 : decode cL_refuses 72 = .ok (.istore 7, 2) := by decide +kernel
theorem dL_refuses_74 : decode cL_refuses 74 = .ok (.iload 5, 2) := by decide +kernel
theorem dL_refuses_76 : decode cL_refuses 76 = .ok (.iconst 1, 1) := by decide +kernel
theorem dL_refuses_77 : decode cL_refuses 77 = .ok (.if_icmp .ne 9, 3) := by decide +kernel
theorem dL_refuses_80 : decode cL_refuses 80 = .ok (.sipush 1825, 3) := by decide +kernel
theorem dL_refuses_83 : decode cL_refuses 83 = .ok (.goto 5, 3) := by decide +kernel
theorem dL_refuses_86 : decode cL_refuses 86 = .ok (.iload 6, 2) := by decide +kernel
theorem dL_refuses_88 : decode cL_refuses 88 = .ok (.istore 8, 2) := by decide +kernel
theorem dL_refuses_90 : decode cL_refuses 90 = .ok (.iload 5, 2) := by decide +kernel
theorem dL_refuses_92 : decode cL_refuses 92 = .ok (.iconst 1, 1) := by decide +kernel
theorem dL_refuses_93 : decode cL_refuses 93 = .ok (.if_icmp .ne 7, 3) := by decide +kernel
theorem dL_refuses_96 : decode cL_refuses 96 = .ok (.iconst 5, 1) := by decide +kernel
theorem dL_refuses_97 : decode cL_refuses 97 = .ok (.goto 5, 3) := by decide +kernel
theorem dL_refuses_100 : decode cL_refuses 100 = .ok (.iload 6, 2) := by decide +kernel
theorem dL_refuses_102 : decode cL_refuses 102 = .ok (.istore 9, 2) := by decide +kernel
theorem dL_refuses_104 : decode cL_refuses 104 = .ok (.iload 5, 2) := by decide +kernel
theorem dL_refuses_106 : decode cL_refuses 106 = .ok (.ifCond .ne 7, 3) := by decide +kernel
theorem dL_refuses_109 : decode cL_refuses 109 = .ok (.iconst 0, 1) := by decide +kernel
theorem dL_refuses_110 : decode cL_refuses 110 = .ok (.goto 17, 3) := by decide +kernel
theorem dL_refuses_113 : decode cL_refuses 113 = .ok (.iload 5, 2) := by decide +kernel
theorem dL_refuses_115 : decode cL_refuses 115 = .ok (.iconst 1, 1) := by decide +kernel
theorem dL_refuses_116 : decode cL_refuses 116 = .ok (.if_icmp .ne 9, 3) := by decide +kernel
theorem dL_refuses_119 : decode cL_refuses 119 = .ok (.sipush 1001, 3) := by decide +kernel
theorem dL_refuses_122 : decode cL_refuses 122 = .ok (.goto 5, 3) := by decide +kernel
theorem dL_refuses_125 : decode cL_refuses 125 = .ok (.iload 6, 2) := by decide +kernel
theorem dL_refuses_127 : decode cL_refuses 127 = .ok (.istore 10, 2) := by decide +kernel
theorem dL_refuses_129 : decode cL_refuses 129 = .ok (.iload 5, 2) := by decide +kernel
theorem dL_refuses_131 : decode cL_refuses 131 = .ok (.iconst 1, 1) := by decide +kernel
theorem dL_refuses_132 : decode cL_refuses 132 = .ok (.if_icmp .ne 8, 3) := by decide +kernel
theorem dL_refuses_135 : decode cL_refuses 135 = .ok (.ldc 91, 2) := by decide +kernel
theorem dL_refuses_137 : decode cL_refuses 137 = .ok (.goto 5, 3) := by decide +kernel
theorem dL_refuses_140 : decode cL_refuses 140 = .ok (.iload 6, 2) := by decide +kernel
theorem dL_refuses_142 : decode cL_refuses 142 = .ok (.istore 11, 2) := by decide +kernel
theorem dL_refuses_144 : decode cL_refuses 144 = .ok (.aload_n 0, 1) := by decide +kernel
theorem dL_refuses_145 : decode cL_refuses 145 = .ok (.iload 5, 2) := by decide +kernel
theorem dL_refuses_147 : decode cL_refuses 147 = .ok (.iconst 1, 1) := by decide +kernel
theorem dL_refuses_148 : decode cL_refuses 148 = .ok (.if_icmp .ne 7, 3) := by decide +kernel
theorem dL_refuses_151 : decode cL_refuses 151 = .ok (.iload_n 1, 1) := by decide +kernel
theorem dL_refuses_152 : decode cL_refuses 152 = .ok (.goto 5, 3) := by decide +kernel
theorem dL_refuses_155 : decode cL_refuses 155 = .ok (.iload 6, 2) := by decide +kernel
theorem dL_refuses_157 : decode cL_refuses 157 = .ok (.invokestatic 92, 3) := by decide +kernel
theorem dL_refuses_160 : decode cL_refuses 160 = .ok (.bipush (-91), 2) := by decide +kernel
theorem dL_refuses_162 : decode cL_refuses 162 = .ok (.if_icmp .ne 128, 3) := by decide +kernel
theorem dL_refuses_165 : decode cL_refuses 165 = .ok (.aload_n 0, 1) := by decide +kernel
theorem dL_refuses_166 : decode cL_refuses 166 = .ok (.iconst 2, 1) := by decide +kernel
theorem dL_refuses_167 : decode cL_refuses 167 = .ok (.iload 7, 2) := by decide +kernel
theorem dL_refuses_169 : decode cL_refuses 169 = .ok (.iconst 0, 1) := by decide +kernel
theorem dL_refuses_170 : decode cL_refuses 170 = .ok (.iconst 0, 1) := by decide +kernel
theorem dL_refuses_171 : decode cL_refuses 171 = .ok (.iconst 0, 1) := by decide +kernel
theorem dL_refuses_172 : decode cL_refuses 172 = .ok (.invokestatic 97, 3) := by decide +kernel
theorem dL_refuses_175 : decode cL_refuses 175 = .ok (.bipush (-91), 2) := by decide +kernel
theorem dL_refuses_177 : decode cL_refuses 177 = .ok (.if_icmp .ne 113, 3) := by decide +kernel
theorem dL_refuses_180 : decode cL_refuses 180 = .ok (.aload_n 0, 1) := by decide +kernel
theorem dL_refuses_181 : decode cL_refuses 181 = .ok (.iconst 2, 1) := by decide +kernel
theorem dL_refuses_182 : decode cL_refuses 182 = .ok (.iconst 0, 1) := by decide +kernel
theorem dL_refuses_183 : decode cL_refuses 183 = .ok (.iload 8, 2) := by decide +kernel
theorem dL_refuses_185 : decode cL_refuses 185 = .ok (.iconst 0, 1) := by decide +kernel
theorem dL_refuses_186 : decode cL_refuses 186 = .ok (.iconst 0, 1) := by decide +kernel
theorem dL_refuses_187 : decode cL_refuses 187 = .ok (.invokestatic 97, 3) := by decide +kernel
theorem dL_refuses_190 : decode cL_refuses 190 = .ok (.bipush (-91), 2) := by decide +kernel
theorem dL_refuses_192 : decode cL_refuses 192 = .ok (.if_icmp .ne 98, 3) := by decide +kernel
theorem dL_refuses_195 : decode cL_refuses 195 = .ok (.aload_n 0, 1) := by decide +kernel
theorem dL_refuses_196 : decode cL_refuses 196 = .ok (.iconst 2, 1) := by decide +kernel
theorem dL_refuses_197 : decode cL_refuses 197 = .ok (.iconst 0, 1) := by decide +kernel
theorem dL_refuses_198 : decode cL_refuses 198 = .ok (.iconst 0, 1) := by decide +kernel
theorem dL_refuses_199 : decode cL_refuses 199 = .ok (.iload 5, 2) := by decide +kernel
theorem dL_refuses_201 : decode cL_refuses 201 = .ok (.ifCond .ne 7, 3) := by decide +kernel
theorem dL_refuses_204 : decode cL_refuses 204 = .ok (.iconst 1, 1) := by decide +kernel
theorem dL_refuses_205 : decode cL_refuses 205 = .ok (.goto 16, 3) := by decide +kernel
theorem dL_refuses_208 : decode cL_refuses 208 = .ok (.iload 5, 2) := by decide +kernel
theorem dL_refuses_210 : decode cL_refuses 210 = .ok (.iconst 1, 1) := by decide +kernel
theorem dL_refuses_211 : decode cL_refuses 211 = .ok (.if_icmp .ne 8, 3) := by decide +kernel
theorem dL_refuses_214 : decode cL_refuses 214 = .ok (.bipush 6, 2) := by decide +kernel
theorem dL_refuses_216 : decode cL_refuses 216 = .ok (.goto 5, 3) := by decide +kernel
theorem dL_refuses_219 : decode cL_refuses 219 = .ok (.iload 6, 2) := by decide +kernel
theorem dL_refuses_221 : decode cL_refuses 221 = .ok (.iconst 0, 1) := by decide +kernel
theorem dL_refuses_222 : decode cL_refuses 222 = .ok (.invokestatic 97, 3) := by decide +kernel
theorem dL_refuses_225 : decode cL_refuses 225 = .ok (.bipush (-92), 2) := by decide +kernel
theorem dL_refuses_227 : decode cL_refuses 227 = .ok (.if_icmp .ne 63, 3) := by decide +kernel
theorem dL_refuses_230 : decode cL_refuses 230 = .ok (.aload_n 0, 1) := by decide +kernel
theorem dL_refuses_231 : decode cL_refuses 231 = .ok (.iconst 3, 1) := by decide +kernel
theorem dL_refuses_232 : decode cL_refuses 232 = .ok (.iload 9, 2) := by decide +kernel
theorem dL_refuses_234 : decode cL_refuses 234 = .ok (.iconst (-1), 1) := by decide +kernel
theorem dL_refuses_235 : decode cL_refuses 235 = .ok (.iconst 0, 1) := by decide +kernel
theorem dL_refuses_236 : decode cL_refuses 236 = .ok (.iconst 0, 1) := by decide +kernel
theorem dL_refuses_237 : decode cL_refuses 237 = .ok (.invokestatic 97, 3) := by decide +kernel
theorem dL_refuses_240 : decode cL_refuses 240 = .ok (.bipush (-91), 2) := by decide +kernel
theorem dL_refuses_242 : decode cL_refuses 242 = .ok (.if_icmp .ne 48, 3) := by decide +kernel
theorem dL_refuses_245 : decode cL_refuses 245 = .ok (.aload_n 0, 1) := by decide +kernel
theorem dL_refuses_246 : decode cL_refuses 246 = .ok (.iconst 3, 1) := by decide +kernel
theorem dL_refuses_247 : decode cL_refuses 247 = .ok (.iconst 0, 1) := by decide +kernel
theorem dL_refuses_248 : decode cL_refuses 248 = .ok (.iload 11, 2) := by decide +kernel
theorem dL_refuses_250 : decode cL_refuses 250 = .ok (.iconst 0, 1) := by decide +kernel
theorem dL_refuses_251 : decode cL_refuses 251 = .ok (.iconst 0, 1) := by decide +kernel
theorem dL_refuses_252 : decode cL_refuses 252 = .ok (.invokestatic 97, 3) := by decide +kernel
theorem dL_refuses_255 : decode cL_refuses 255 = .ok (.bipush (-92), 2) := by decide +kernel
theorem dL_refuses_257 : decode cL_refuses 257 = .ok (.if_icmp .ne 33, 3) := by decide +kernel
theorem dL_refuses_260 : decode cL_refuses 260 = .ok (.aload_n 0, 1) := by decide +kernel
theorem dL_refuses_261 : decode cL_refuses 261 = .ok (.iconst 4, 1) := by decide +kernel
theorem dL_refuses_262 : decode cL_refuses 262 = .ok (.iload 5, 2) := by decide +kernel
theorem dL_refuses_264 : decode cL_refuses 264 = .ok (.iconst 1, 1) := by decide +kernel
theorem dL_refuses_265 : decode cL_refuses 265 = .ok (.if_icmp .ne 8, 3) := by decide +kernel
theorem dL_refuses_268 : decode cL_refuses 268 = .ok (.bipush 61, 2) := by decide +kernel
theorem dL_refuses_270 : decode cL_refuses 270 = .ok (.goto 5, 3) := by decide +kernel
theorem dL_refuses_273 : decode cL_refuses 273 = .ok (.iload 6, 2) := by decide +kernel
theorem dL_refuses_275 : decode cL_refuses 275 = .ok (.iconst 0, 1) := by decide +kernel
theorem dL_refuses_276 : decode cL_refuses 276 = .ok (.iconst 0, 1) := by decide +kernel
theorem dL_refuses_277 : decode cL_refuses 277 = .ok (.iconst 0, 1) := by decide +kernel
theorem dL_refuses_278 : decode cL_refuses 278 = .ok (.invokestatic 97, 3) := by decide +kernel
theorem dL_refuses_281 : decode cL_refuses 281 = .ok (.bipush (-92), 2) := by decide +kernel
theorem dL_refuses_283 : decode cL_refuses 283 = .ok (.if_icmp .ne 7, 3) := by decide +kernel
theorem dL_refuses_286 : decode cL_refuses 286 = .ok (.iconst 1, 1) := by decide +kernel
theorem dL_refuses_287 : decode cL_refuses 287 = .ok (.goto 4, 3) := by decide +kernel
theorem dL_refuses_290 : decode cL_refuses 290 = .ok (.iconst 0, 1) := by decide +kernel
theorem dL_refuses_291 : decode cL_refuses 291 = .ok (.istore 12, 2) := by decide +kernel
theorem dL_refuses_293 : decode cL_refuses 293 = .ok (.iconst 0, 1) := by decide +kernel
theorem dL_refuses_294 : decode cL_refuses 294 = .ok (.istore 13, 2) := by decide +kernel
theorem dL_refuses_296 : decode cL_refuses 296 = .ok (.iload 13, 2) := by decide +kernel
theorem dL_refuses_298 : decode cL_refuses 298 = .ok (.iconst 2, 1) := by decide +kernel
theorem dL_refuses_299 : decode cL_refuses 299 = .ok (.if_icmp .ge 85, 3) := by decide +kernel
theorem dL_refuses_302 : decode cL_refuses 302 = .ok (.iload 12, 2) := by decide +kernel
theorem dL_refuses_304 : decode cL_refuses 304 = .ok (.ifCond .eq 71, 3) := by decide +kernel
theorem dL_refuses_307 : decode cL_refuses 307 = .ok (.aload_n 0, 1) := by decide +kernel
theorem dL_refuses_308 : decode cL_refuses 308 = .ok (.iload 13, 2) := by decide +kernel
theorem dL_refuses_310 : decode cL_refuses 310 = .ok (.iload 7, 2) := by decide +kernel
theorem dL_refuses_312 : decode cL_refuses 312 = .ok (.iconst 0, 1) := by decide +kernel
theorem dL_refuses_313 : decode cL_refuses 313 = .ok (.iconst 0, 1) := by decide +kernel
theorem dL_refuses_314 : decode cL_refuses 314 = .ok (.iconst 0, 1) := by decide +kernel
theorem dL_refuses_315 : decode cL_refuses 315 = .ok (.invokestatic 97, 3) := by decide +kernel
theorem dL_refuses_318 : decode cL_refuses 318 = .ok (.bipush (-91), 2) := by decide +kernel
theorem dL_refuses_320 : decode cL_refuses 320 = .ok (.if_icmp .ne 55, 3) := by decide +kernel
theorem dL_refuses_323 : decode cL_refuses 323 = .ok (.aload_n 0, 1) := by decide +kernel
theorem dL_refuses_324 : decode cL_refuses 324 = .ok (.iload 13, 2) := by decide +kernel
theorem dL_refuses_326 : decode cL_refuses 326 = .ok (.iconst 0, 1) := by decide +kernel
theorem dL_refuses_327 : decode cL_refuses 327 = .ok (.iload 8, 2) := by decide +kernel
theorem dL_refuses_329 : decode cL_refuses 329 = .ok (.iconst 0, 1) := by decide +kernel
theorem dL_refuses_330 : decode cL_refuses 330 = .ok (.iconst 0, 1) := by decide +kernel
theorem dL_refuses_331 : decode cL_refuses 331 = .ok (.invokestatic 97, 3) := by decide +kernel
theorem dL_refuses_334 : decode cL_refuses 334 = .ok (.bipush (-91), 2) := by decide +kernel
theorem dL_refuses_336 : decode cL_refuses 336 = .ok (.if_icmp .ne 39, 3) := by decide +kernel
theorem dL_refuses_339 : decode cL_refuses 339 = .ok (.aload_n 0, 1) := by decide +kernel
theorem dL_refuses_340 : decode cL_refuses 340 = .ok (.iload 13, 2) := by decide +kernel
theorem dL_refuses_342 : decode cL_refuses 342 = .ok (.iconst 0, 1) := by decide +kernel
theorem dL_refuses_343 : decode cL_refuses 343 = .ok (.iconst 0, 1) := by decide +kernel
theorem dL_refuses_344 : decode cL_refuses 344 = .ok (.iload 10, 2) := by decide +kernel
theorem dL_refuses_346 : decode cL_refuses 346 = .ok (.iconst 0, 1) := by decide +kernel
theorem dL_refuses_347 : decode cL_refuses 347 = .ok (.invokestatic 97, 3) := by decide +kernel
theorem dL_refuses_350 : decode cL_refuses 350 = .ok (.bipush (-92), 2) := by decide +kernel
theorem dL_refuses_352 : decode cL_refuses 352 = .ok (.if_icmp .ne 23, 3) := by decide +kernel
theorem dL_refuses_355 : decode cL_refuses 355 = .ok (.aload_n 0, 1) := by decide +kernel
theorem dL_refuses_356 : decode cL_refuses 356 = .ok (.iload 13, 2) := by decide +kernel
theorem dL_refuses_358 : decode cL_refuses 358 = .ok (.iconst 0, 1) := by decide +kernel
theorem dL_refuses_359 : decode cL_refuses 359 = .ok (.iconst 0, 1) := by decide +kernel
theorem dL_refuses_360 : decode cL_refuses 360 = .ok (.iconst 1, 1) := by decide +kernel
theorem dL_refuses_361 : decode cL_refuses 361 = .ok (.iload 11, 2) := by decide +kernel
theorem dL_refuses_363 : decode cL_refuses 363 = .ok (.invokestatic 97, 3) := by decide +kernel
theorem dL_refuses_366 : decode cL_refuses 366 = .ok (.bipush (-92), 2) := by decide +kernel
theorem dL_refuses_368 : decode cL_refuses 368 = .ok (.if_icmp .ne 7, 3) := by decide +kernel
theorem dL_refuses_371 : decode cL_refuses 371 = .ok (.iconst 1, 1) := by decide +kernel
theorem dL_refuses_372 : decode cL_refuses 372 = .ok (.goto 4, 3) := by decide +kernel
theorem dL_refuses_375 : decode cL_refuses 375 = .ok (.iconst 0, 1) := by decide +kernel
theorem dL_refuses_376 : decode cL_refuses 376 = .ok (.istore 12, 2) := by decide +kernel
theorem dL_refuses_378 : decode cL_refuses 378 = .ok (.iinc 13 1, 3) := by decide +kernel
theorem dL_refuses_381 : decode cL_refuses 381 = .ok (.goto (-85), 3) := by decide +kernel
theorem dL_refuses_384 : decode cL_refuses 384 = .ok (.iconst 5, 1) := by decide +kernel
theorem dL_refuses_385 : decode cL_refuses 385 = .ok (.istore 13, 2) := by decide +kernel
theorem dL_refuses_387 : decode cL_refuses 387 = .ok (.iload 13, 2) := by decide +kernel
theorem dL_refuses_389 : decode cL_refuses 389 = .ok (.bipush 8, 2) := by decide +kernel
theorem dL_refuses_391 : decode cL_refuses 391 = .ok (.if_icmp .ge 53, 3) := by decide +kernel
theorem dL_refuses_394 : decode cL_refuses 394 = .ok (.iload 12, 2) := by decide +kernel
theorem dL_refuses_396 : decode cL_refuses 396 = .ok (.ifCond .eq 39, 3) := by decide +kernel
theorem dL_refuses_399 : decode cL_refuses 399 = .ok (.aload_n 0, 1) := by decide +kernel
theorem dL_refuses_400 : decode cL_refuses 400 = .ok (.iload 13, 2) := by decide +kernel
theorem dL_refuses_402 : decode cL_refuses 402 = .ok (.iload 7, 2) := by decide +kernel
theorem dL_refuses_404 : decode cL_refuses 404 = .ok (.iconst 0, 1) := by decide +kernel
theorem dL_refuses_405 : decode cL_refuses 405 = .ok (.iconst 0, 1) := by decide +kernel
theorem dL_refuses_406 : decode cL_refuses 406 = .ok (.iconst 0, 1) := by decide +kernel
theorem dL_refuses_407 : decode cL_refuses 407 = .ok (.invokestatic 97, 3) := by decide +kernel
theorem dL_refuses_410 : decode cL_refuses 410 = .ok (.bipush (-91), 2) := by decide +kernel
theorem dL_refuses_412 : decode cL_refuses 412 = .ok (.if_icmp .ne 23, 3) := by decide +kernel
theorem dL_refuses_415 : decode cL_refuses 415 = .ok (.aload_n 0, 1) := by decide +kernel
theorem dL_refuses_416 : decode cL_refuses 416 = .ok (.iload 13, 2) := by decide +kernel
theorem dL_refuses_418 : decode cL_refuses 418 = .ok (.iconst 0, 1) := by decide +kernel
theorem dL_refuses_419 : decode cL_refuses 419 = .ok (.iload 8, 2) := by decide +kernel
theorem dL_refuses_421 : decode cL_refuses 421 = .ok (.iconst 0, 1) := by decide +kernel
theorem dL_refuses_422 : decode cL_refuses 422 = .ok (.iconst 0, 1) := by decide +kernel
theorem dL_refuses_423 : decode cL_refuses 423 = .ok (.invokestatic 97, 3) := by decide +kernel
theorem dL_refuses_426 : decode cL_refuses 426 = .ok (.bipush (-91), 2) := by decide +kernel
theorem dL_refuses_428 : decode cL_refuses 428 = .ok (.if_icmp .ne 7, 3) := by decide +kernel
theorem dL_refuses_431 : decode cL_refuses 431 = .ok (.iconst 1, 1) := by decide +kernel
theorem dL_refuses_432 : decode cL_refuses 432 = .ok (.goto 4, 3) := by decide +kernel
theorem dL_refuses_435 : decode cL_refuses 435 = .ok (.iconst 0, 1) := by decide +kernel
theorem dL_refuses_436 : decode cL_refuses 436 = .ok (.istore 12, 2) := by decide +kernel
theorem dL_refuses_438 : decode cL_refuses 438 = .ok (.iinc 13 1, 3) := by decide +kernel
theorem dL_refuses_441 : decode cL_refuses 441 = .ok (.goto (-54), 3) := by decide +kernel
theorem dL_refuses_444 : decode cL_refuses 444 = .ok (.iload 12, 2) := by decide +kernel
theorem dL_refuses_446 : decode cL_refuses 446 = .ok (.ifCond .eq 39, 3) := by decide +kernel
theorem dL_refuses_449 : decode cL_refuses 449 = .ok (.aload_n 0, 1) := by decide +kernel
theorem dL_refuses_450 : decode cL_refuses 450 = .ok (.bipush 8, 2) := by decide +kernel
theorem dL_refuses_452 : decode cL_refuses 452 = .ok (.iload 7, 2) := by decide +kernel
theorem dL_refuses_454 : decode cL_refuses 454 = .ok (.iconst 0, 1) := by decide +kernel
theorem dL_refuses_455 : decode cL_refuses 455 = .ok (.iconst 0, 1) := by decide +kernel
theorem dL_refuses_456 : decode cL_refuses 456 = .ok (.iconst 0, 1) := by decide +kernel
theorem dL_refuses_457 : decode cL_refuses 457 = .ok (.invokestatic 97, 3) := by decide +kernel
theorem dL_refuses_460 : decode cL_refuses 460 = .ok (.bipush (-91), 2) := by decide +kernel
theorem dL_refuses_462 : decode cL_refuses 462 = .ok (.if_icmp .ne 23, 3) := by decide +kernel
theorem dL_refuses_465 : decode cL_refuses 465 = .ok (.aload_n 0, 1) := by decide +kernel
theorem dL_refuses_466 : decode cL_refuses 466 = .ok (.bipush 8, 2) := by decide +kernel
theorem dL_refuses_468 : decode cL_refuses 468 = .ok (.iconst 0, 1) := by decide +kernel
theorem dL_refuses_469 : decode cL_refuses 469 = .ok (.iload 9, 2) := by decide +kernel
theorem dL_refuses_471 : decode cL_refuses 471 = .ok (.iconst 0, 1) := by decide +kernel
theorem dL_refuses_472 : decode cL_refuses 472 = .ok (.iconst 0, 1) := by decide +kernel
theorem dL_refuses_473 : decode cL_refuses 473 = .ok (.invokestatic 97, 3) := by decide +kernel
theorem dL_refuses_476 : decode cL_refuses 476 = .ok (.bipush (-91), 2) := by decide +kernel
theorem dL_refuses_478 : decode cL_refuses 478 = .ok (.if_icmp .ne 7, 3) := by decide +kernel
theorem dL_refuses_481 : decode cL_refuses 481 = .ok (.iconst 1, 1) := by decide +kernel
theorem dL_refuses_482 : decode cL_refuses 482 = .ok (.goto 4, 3) := by decide +kernel
theorem dL_refuses_485 : decode cL_refuses 485 = .ok (.iconst 0, 1) := by decide +kernel
theorem dL_refuses_486 : decode cL_refuses 486 = .ok (.istore 12, 2) := by decide +kernel
theorem dL_refuses_488 : decode cL_refuses 488 = .ok (.bipush 9, 2) := by decide +kernel
theorem dL_refuses_490 : decode cL_refuses 490 = .ok (.istore 13, 2) := by decide +kernel
theorem dL_refuses_492 : decode cL_refuses 492 = .ok (.iload 13, 2) := by decide +kernel
theorem dL_refuses_494 : decode cL_refuses 494 = .ok (.bipush 15, 2) := by decide +kernel
theorem dL_refuses_496 : decode cL_refuses 496 = .ok (.if_icmp .ge 67, 3) := by decide +kernel
theorem dL_refuses_499 : decode cL_refuses 499 = .ok (.iload 12, 2) := by decide +kernel
theorem dL_refuses_501 : decode cL_refuses 501 = .ok (.ifCond .eq 53, 3) := by decide +kernel
theorem dL_refuses_504 : decode cL_refuses 504 = .ok (.aload_n 0, 1) := by decide +kernel
theorem dL_refuses_505 : decode cL_refuses 505 = .ok (.iload 13, 2) := by decide +kernel
theorem dL_refuses_507 : decode cL_refuses 507 = .ok (.iload 7, 2) := by decide +kernel
theorem dL_refuses_509 : decode cL_refuses 509 = .ok (.iconst 0, 1) := by decide +kernel
theorem dL_refuses_510 : decode cL_refuses 510 = .ok (.iconst 0, 1) := by decide +kernel
theorem dL_refuses_511 : decode cL_refuses 511 = .ok (.iconst 0, 1) := by decide +kernel
theorem dL_refuses_512 : decode cL_refuses 512 = .ok (.invokestatic 97, 3) := by decide +kernel
theorem dL_refuses_515 : decode cL_refuses 515 = .ok (.bipush (-91), 2) := by decide +kernel
theorem dL_refuses_517 : decode cL_refuses 517 = .ok (.if_icmp .ne 37, 3) := by decide +kernel
theorem dL_refuses_520 : decode cL_refuses 520 = .ok (.aload_n 0, 1) := by decide +kernel
theorem dL_refuses_521 : decode cL_refuses 521 = .ok (.iload 13, 2) := by decide +kernel
theorem dL_refuses_523 : decode cL_refuses 523 = .ok (.iconst 0, 1) := by decide +kernel
theorem dL_refuses_524 : decode cL_refuses 524 = .ok (.iload 5, 2) := by decide +kernel
theorem dL_refuses_526 : decode cL_refuses 526 = .ok (.iconst 1, 1) := by decide +kernel
theorem dL_refuses_527 : decode cL_refuses 527 = .ok (.if_icmp .ne 11, 3) := by decide +kernel
theorem dL_refuses_530 : decode cL_refuses 530 = .ok (.aload_n 0, 1) := by decide +kernel
theorem dL_refuses_531 : decode cL_refuses 531 = .ok (.iconst 0, 1) := by decide +kernel
theorem dL_refuses_532 : decode cL_refuses 532 = .ok (.invokevirtual 72, 3) := by decide +kernel
theorem dL_refuses_535 : decode cL_refuses 535 = .ok (.goto 5, 3) := by decide +kernel
theorem dL_refuses_538 : decode cL_refuses 538 = .ok (.iload 6, 2) := by decide +kernel
theorem dL_refuses_540 : decode cL_refuses 540 = .ok (.iconst 0, 1) := by decide +kernel
theorem dL_refuses_541 : decode cL_refuses 541 = .ok (.iconst 0, 1) := by decide +kernel
theorem dL_refuses_542 : decode cL_refuses 542 = .ok (.invokestatic 97, 3) := by decide +kernel
theorem dL_refuses_545 : decode cL_refuses 545 = .ok (.bipush (-91), 2) := by decide +kernel
theorem dL_refuses_547 : decode cL_refuses 547 = .ok (.if_icmp .ne 7, 3) := by decide +kernel
theorem dL_refuses_550 : decode cL_refuses 550 = .ok (.iconst 1, 1) := by decide +kernel
theorem dL_refuses_551 : decode cL_refuses 551 = .ok (.goto 4, 3) := by decide +kernel
theorem dL_refuses_554 : decode cL_refuses 554 = .ok (.iconst 0, 1) := by decide +kernel
theorem dL_refuses_555 : decode cL_refuses 555 = .ok (.istore 12, 2) := by decide +kernel
theorem dL_refuses_557 : decode cL_refuses 557 = .ok (.iinc 13 1, 3) := by decide +kernel
theorem dL_refuses_560 : decode cL_refuses 560 = .ok (.goto (-68), 3) := by decide +kernel
theorem dL_refuses_563 : decode cL_refuses 563 = .ok (.bipush 15, 2) := by decide +kernel
theorem dL_refuses_565 : decode cL_refuses 565 = .ok (.istore 13, 2) := by decide +kernel
theorem dL_refuses_567 : decode cL_refuses 567 = .ok (.iload 13, 2) := by decide +kernel
theorem dL_refuses_569 : decode cL_refuses 569 = .ok (.bipush 18, 2) := by decide +kernel
theorem dL_refuses_571 : decode cL_refuses 571 = .ok (.if_icmp .ge 37, 3) := by decide +kernel
theorem dL_refuses_574 : decode cL_refuses 574 = .ok (.iload 12, 2) := by decide +kernel
theorem dL_refuses_576 : decode cL_refuses 576 = .ok (.ifCond .eq 23, 3) := by decide +kernel
theorem dL_refuses_579 : decode cL_refuses 579 = .ok (.aload_n 0, 1) := by decide +kernel
theorem dL_refuses_580 : decode cL_refuses 580 = .ok (.iload 13, 2) := by decide +kernel
theorem dL_refuses_582 : decode cL_refuses 582 = .ok (.iload 7, 2) := by decide +kernel
theorem dL_refuses_584 : decode cL_refuses 584 = .ok (.iconst 0, 1) := by decide +kernel
theorem dL_refuses_585 : decode cL_refuses 585 = .ok (.iconst 0, 1) := by decide +kernel
theorem dL_refuses_586 : decode cL_refuses 586 = .ok (.iconst 0, 1) := by decide +kernel
theorem dL_refuses_587 : decode cL_refuses 587 = .ok (.invokestatic 97, 3) := by decide +kernel
theorem dL_refuses_590 : decode cL_refuses 590 = .ok (.bipush (-91), 2) := by decide +kernel
theorem dL_refuses_592 : decode cL_refuses 592 = .ok (.if_icmp .ne 7, 3) := by decide +kernel
theorem dL_refuses_595 : decode cL_refuses 595 = .ok (.iconst 1, 1) := by decide +kernel
theorem dL_refuses_596 : decode cL_refuses 596 = .ok (.goto 4, 3) := by decide +kernel
theorem dL_refuses_599 : decode cL_refuses 599 = .ok (.iconst 0, 1) := by decide +kernel
theorem dL_refuses_600 : decode cL_refuses 600 = .ok (.istore 12, 2) := by decide +kernel
theorem dL_refuses_602 : decode cL_refuses 602 = .ok (.iinc 13 1, 3) := by decide +kernel
theorem dL_refuses_605 : decode cL_refuses 605 = .ok (.goto (-38), 3) := by decide +kernel
theorem dL_refuses_608 : decode cL_refuses 608 = .ok (.bipush 18, 2) := by decide +kernel
theorem dL_refuses_610 : decode cL_refuses 610 = .ok (.istore 13, 2) := by decide +kernel
theorem dL_refuses_612 : decode cL_refuses 612 = .ok (.iload 13, 2) := by decide +kernel
theorem dL_refuses_614 : decode cL_refuses 614 = .ok (.bipush 21, 2) := by decide +kernel
theorem dL_refuses_616 : decode cL_refuses 616 = .ok (.if_icmp .ge 37, 3) := by decide +kernel
theorem dL_refuses_619 : decode cL_refuses 619 = .ok (.iload 12, 2) := by decide +kernel
theorem dL_refuses_621 : decode cL_refuses 621 = .ok (.ifCond .eq 23, 3) := by decide +kernel
theorem dL_refuses_624 : decode cL_refuses 624 = .ok (.aload_n 0, 1) := by decide +kernel
theorem dL_refuses_625 : decode cL_refuses 625 = .ok (.iload 13, 2) := by decide +kernel
theorem dL_refuses_627 : decode cL_refuses 627 = .ok (.iload 9, 2) := by decide +kernel
theorem dL_refuses_629 : decode cL_refuses 629 = .ok (.iconst 0, 1) := by decide +kernel
theorem dL_refuses_630 : decode cL_refuses 630 = .ok (.iconst 0, 1) := by decide +kernel
theorem dL_refuses_631 : decode cL_refuses 631 = .ok (.iconst 0, 1) := by decide +kernel
theorem dL_refuses_632 : decode cL_refuses 632 = .ok (.invokestatic 97, 3) := by decide +kernel
theorem dL_refuses_635 : decode cL_refuses 635 = .ok (.bipush (-91), 2) := by decide +kernel
theorem dL_refuses_637 : decode cL_refuses 637 = .ok (.if_icmp .ne 7, 3) := by decide +kernel
theorem dL_refuses_640 : decode cL_refuses 640 = .ok (.iconst 1, 1) := by decide +kernel
theorem dL_refuses_641 : decode cL_refuses 641 = .ok (.goto 4, 3) := by decide +kernel
theorem dL_refuses_644 : decode cL_refuses 644 = .ok (.iconst 0, 1) := by decide +kernel
theorem dL_refuses_645 : decode cL_refuses 645 = .ok (.istore 12, 2) := by decide +kernel
theorem dL_refuses_647 : decode cL_refuses 647 = .ok (.iinc 13 1, 3) := by decide +kernel
theorem dL_refuses_650 : decode cL_refuses 650 = .ok (.goto (-38), 3) := by decide +kernel
theorem dL_refuses_653 : decode cL_refuses 653 = .ok (.iload 12, 2) := by decide +kernel
theorem dL_refuses_655 : decode cL_refuses 655 = .ok (.ifCond .ne 5, 3) := by decide +kernel
theorem dL_refuses_658 : decode cL_refuses 658 = .ok (.iconst 0, 1) := by decide +kernel
theorem dL_refuses_659 : decode cL_refuses 659 = .ok (.ireturn, 1) := by decide +kernel
theorem dL_refuses_660 : decode cL_refuses 660 = .ok (.iinc 5 1, 3) := by decide +kernel
theorem dL_refuses_663 : decode cL_refuses 663 = .ok (.goto (-636), 3) := by decide +kernel
theorem dL_refuses_666 : decode cL_refuses 666 = .ok (.aload_n 0, 1) := by decide +kernel
theorem dL_refuses_667 : decode cL_refuses 667 = .ok (.invokevirtual 86, 3) := by decide +kernel
theorem dL_refuses_670 : decode cL_refuses 670 = .ok (.iload_n 1, 1) := by decide +kernel
theorem dL_refuses_671 : decode cL_refuses 671 = .ok (.if_icmp .ne 28, 3) := by decide +kernel
theorem dL_refuses_674 : decode cL_refuses 674 = .ok (.aload_n 0, 1) := by decide +kernel
theorem dL_refuses_675 : decode cL_refuses 675 = .ok (.iconst 0, 1) := by decide +kernel
theorem dL_refuses_676 : decode cL_refuses 676 = .ok (.invokevirtual 75, 3) := by decide +kernel
theorem dL_refuses_679 : decode cL_refuses 679 = .ok (.iload_n 2, 1) := by decide +kernel
theorem dL_refuses_680 : decode cL_refuses 680 = .ok (.if_icmp .ne 19, 3) := by decide +kernel
theorem dL_refuses_683 : decode cL_refuses 683 = .ok (.aload_n 0, 1) := by decide +kernel
theorem dL_refuses_684 : decode cL_refuses 684 = .ok (.iconst 0, 1) := by decide +kernel
theorem dL_refuses_685 : decode cL_refuses 685 = .ok (.sipush 1824, 3) := by decide +kernel
theorem dL_refuses_688 : decode cL_refuses 688 = .ok (.invokevirtual 36, 3) := by decide +kernel
theorem dL_refuses_691 : decode cL_refuses 691 = .ok (.iload_n 3, 1) := by decide +kernel
theorem dL_refuses_692 : decode cL_refuses 692 = .ok (.if_icmp .ne 7, 3) := by decide +kernel
theorem dL_refuses_695 : decode cL_refuses 695 = .ok (.iconst 1, 1) := by decide +kernel
theorem dL_refuses_696 : decode cL_refuses 696 = .ok (.goto 4, 3) := by decide +kernel
theorem dL_refuses_699 : decode cL_refuses 699 = .ok (.iconst 0, 1) := by decide +kernel
theorem dL_refuses_700 : decode cL_refuses 700 = .ok (.ireturn, 1) := by decide +kernel

theorem d_init_0 : decode c_M_init 0 = .ok (.aload_n 0, 1) := by decide +kernel
theorem d_init_1 : decode c_M_init 1 = .ok (.invokespecial 1, 3) := by decide +kernel
theorem d_init_4 : decode c_M_init 4 = .ok (.aload_n 0, 1) := by decide +kernel
theorem d_init_5 : decode c_M_init 5 = .ok (.bipush 8, 2) := by decide +kernel
theorem d_init_7 : decode c_M_init 7 = .ok (.putfield 7, 3) := by decide +kernel
theorem d_init_10 : decode c_M_init 10 = .ok (.aload_n 0, 1) := by decide +kernel
theorem d_init_11 : decode c_M_init 11 = .ok (.bipush 8, 2) := by decide +kernel
theorem d_init_13 : decode c_M_init 13 = .ok (.putfield 13, 3) := by decide +kernel
theorem d_init_16 : decode c_M_init 16 = .ok (.aload_n 0, 1) := by decide +kernel
theorem d_init_17 : decode c_M_init 17 = .ok (.iconst 1, 1) := by decide +kernel
theorem d_init_18 : decode c_M_init 18 = .ok (.putfield 16, 3) := by decide +kernel
theorem d_init_21 : decode c_M_init 21 = .ok (.aload_n 0, 1) := by decide +kernel
theorem d_init_22 : decode c_M_init 22 = .ok (.sipush 12288, 3) := by decide +kernel
theorem d_init_25 : decode c_M_init 25 = .ok (.newarray .int, 2) := by decide +kernel
theorem d_init_27 : decode c_M_init 27 = .ok (.putfield 19, 3) := by decide +kernel
theorem d_init_30 : decode c_M_init 30 = .ok (.aload_n 0, 1) := by decide +kernel
theorem d_init_31 : decode c_M_init 31 = .ok (.sipush 128, 3) := by decide +kernel
theorem d_init_34 : decode c_M_init 34 = .ok (.newarray .int, 2) := by decide +kernel
theorem d_init_36 : decode c_M_init 36 = .ok (.putfield 23, 3) := by decide +kernel
theorem d_init_39 : decode c_M_init 39 = .ok (.aload_n 0, 1) := by decide +kernel
theorem d_init_40 : decode c_M_init 40 = .ok (.ldc 26, 2) := by decide +kernel
theorem d_init_42 : decode c_M_init 42 = .ok (.newarray .int, 2) := by decide +kernel
theorem d_init_44 : decode c_M_init 44 = .ok (.putfield 27, 3) := by decide +kernel
theorem d_init_47 : decode c_M_init 47 = .ok (.aload_n 0, 1) := by decide +kernel
theorem d_init_48 : decode c_M_init 48 = .ok (.ldc 30, 2) := by decide +kernel
theorem d_init_50 : decode c_M_init 50 = .ok (.newarray .int, 2) := by decide +kernel
theorem d_init_52 : decode c_M_init 52 = .ok (.putfield 31, 3) := by decide +kernel
theorem d_init_55 : decode c_M_init 55 = .ok (.aload_n 0, 1) := by decide +kernel
theorem d_init_56 : decode c_M_init 56 = .ok (.iconst (-1), 1) := by decide +kernel
theorem d_init_57 : decode c_M_init 57 = .ok (.putfield 34, 3) := by decide +kernel
theorem d_init_60 : decode c_M_init 60 = .ok (.aload_n 0, 1) := by decide +kernel
theorem d_init_61 : decode c_M_init 61 = .ok (.iconst 3, 1) := by decide +kernel
theorem d_init_62 : decode c_M_init 62 = .ok (.newarray .boolean, 2) := by decide +kernel
theorem d_init_64 : decode c_M_init 64 = .ok (.putfield 37, 3) := by decide +kernel
theorem d_init_67 : decode c_M_init 67 = .ok (.aload_n 0, 1) := by decide +kernel
theorem d_init_68 : decode c_M_init 68 = .ok (.iconst 3, 1) := by decide +kernel
theorem d_init_69 : decode c_M_init 69 = .ok (.newarray .int, 2) := by decide +kernel
theorem d_init_71 : decode c_M_init 71 = .ok (.putfield 41, 3) := by decide +kernel
theorem d_init_74 : decode c_M_init 74 = .ok (.aload_n 0, 1) := by decide +kernel
theorem d_init_75 : decode c_M_init 75 = .ok (.iconst 3, 1) := by decide +kernel
theorem d_init_76 : decode c_M_init 76 = .ok (.newarray .int, 2) := by decide +kernel
theorem d_init_78 : decode c_M_init 78 = .ok (.putfield 44, 3) := by decide +kernel
theorem d_init_81 : decode c_M_init 81 = .ok (.aload_n 0, 1) := by decide +kernel
theorem d_init_82 : decode c_M_init 82 = .ok (.iconst 3, 1) := by decide +kernel
theorem d_init_83 : decode c_M_init 83 = .ok (.newarray .int, 2) := by decide +kernel
theorem d_init_85 : decode c_M_init 85 = .ok (.putfield 47, 3) := by decide +kernel
theorem d_init_88 : decode c_M_init 88 = .ok (.aload_n 0, 1) := by decide +kernel
theorem d_init_89 : decode c_M_init 89 = .ok (.bipush 9, 2) := by decide +kernel
theorem d_init_91 : decode c_M_init 91 = .ok (.newarray .int, 2) := by decide +kernel
theorem d_init_93 : decode c_M_init 93 = .ok (.putfield 50, 3) := by decide +kernel
theorem d_init_96 : decode c_M_init 96 = .ok (.aload_n 0, 1) := by decide +kernel
theorem d_init_97 : decode c_M_init 97 = .ok (.bipush 9, 2) := by decide +kernel
theorem d_init_99 : decode c_M_init 99 = .ok (.newarray .int, 2) := by decide +kernel
theorem d_init_101 : decode c_M_init 101 = .ok (.putfield 53, 3) := by decide +kernel
theorem d_init_104 : decode c_M_init 104 = .ok (.aload_n 0, 1) := by decide +kernel
theorem d_init_105 : decode c_M_init 105 = .ok (.bipush 9, 2) := by decide +kernel
theorem d_init_107 : decode c_M_init 107 = .ok (.newarray .int, 2) := by decide +kernel
theorem d_init_109 : decode c_M_init 109 = .ok (.putfield 56, 3) := by decide +kernel
theorem d_init_112 : decode c_M_init 112 = .ok (.aload_n 0, 1) := by decide +kernel
theorem d_init_113 : decode c_M_init 113 = .ok (.bipush 9, 2) := by decide +kernel
theorem d_init_115 : decode c_M_init 115 = .ok (.newarray .int, 2) := by decide +kernel
theorem d_init_117 : decode c_M_init 117 = .ok (.putfield 59, 3) := by decide +kernel
theorem d_init_120 : decode c_M_init 120 = .ok (.aload_n 0, 1) := by decide +kernel
theorem d_init_121 : decode c_M_init 121 = .ok (.ldc 62, 2) := by decide +kernel
theorem d_init_123 : decode c_M_init 123 = .ok (.newarray .int, 2) := by decide +kernel
theorem d_init_125 : decode c_M_init 125 = .ok (.putfield 63, 3) := by decide +kernel
theorem d_init_128 : decode c_M_init 128 = .ok (.aload_n 0, 1) := by decide +kernel
theorem d_init_129 : decode c_M_init 129 = .ok (.sipush 12288, 3) := by decide +kernel
theorem d_init_132 : decode c_M_init 132 = .ok (.newarray .int, 2) := by decide +kernel
theorem d_init_134 : decode c_M_init 134 = .ok (.putfield 66, 3) := by decide +kernel
theorem d_init_137 : decode c_M_init 137 = .ok (.aload_n 0, 1) := by decide +kernel
theorem d_init_138 : decode c_M_init 138 = .ok (.sipush 4096, 3) := by decide +kernel
theorem d_init_141 : decode c_M_init 141 = .ok (.newarray .int, 2) := by decide +kernel
theorem d_init_143 : decode c_M_init 143 = .ok (.putfield 69, 3) := by decide +kernel
theorem d_init_146 : decode c_M_init 146 = .ok (.aload_n 0, 1) := by decide +kernel
theorem d_init_147 : decode c_M_init 147 = .ok (.bipush 64, 2) := by decide +kernel
theorem d_init_149 : decode c_M_init 149 = .ok (.newarray .int, 2) := by decide +kernel
theorem d_init_151 : decode c_M_init 151 = .ok (.putfield 72, 3) := by decide +kernel
theorem d_init_154 : decode c_M_init 154 = .ok (.aload_n 0, 1) := by decide +kernel
theorem d_init_155 : decode c_M_init 155 = .ok (.bipush 64, 2) := by decide +kernel
theorem d_init_157 : decode c_M_init 157 = .ok (.newarray .int, 2) := by decide +kernel
theorem d_init_159 : decode c_M_init 159 = .ok (.putfield 75, 3) := by decide +kernel
theorem d_init_162 : decode c_M_init 162 = .ok (.aload_n 0, 1) := by decide +kernel
theorem d_init_163 : decode c_M_init 163 = .ok (.bipush 64, 2) := by decide +kernel
theorem d_init_165 : decode c_M_init 165 = .ok (.newarray .long, 2) := by decide +kernel
theorem d_init_167 : decode c_M_init 167 = .ok (.putfield 78, 3) := by decide +kernel
theorem d_init_170 : decode c_M_init 170 = .ok (.aload_n 0, 1) := by decide +kernel
theorem d_init_171 : decode c_M_init 171 = .ok (.bipush 64, 2) := by decide +kernel
theorem d_init_173 : decode c_M_init 173 = .ok (.newarray .int, 2) := by decide +kernel
theorem d_init_175 : decode c_M_init 175 = .ok (.putfield 82, 3) := by decide +kernel
theorem d_init_178 : decode c_M_init 178 = .ok (.aload_n 0, 1) := by decide +kernel
theorem d_init_179 : decode c_M_init 179 = .ok (.sipush 1028, 3) := by decide +kernel
theorem d_init_182 : decode c_M_init 182 = .ok (.newarray .int, 2) := by decide +kernel
theorem d_init_184 : decode c_M_init 184 = .ok (.putfield 85, 3) := by decide +kernel
theorem d_init_187 : decode c_M_init 187 = .ok (.aload_n 0, 1) := by decide +kernel
theorem d_init_188 : decode c_M_init 188 = .ok (.sipush 1028, 3) := by decide +kernel
theorem d_init_191 : decode c_M_init 191 = .ok (.newarray .int, 2) := by decide +kernel
theorem d_init_193 : decode c_M_init 193 = .ok (.putfield 88, 3) := by decide +kernel
theorem d_init_196 : decode c_M_init 196 = .ok (.aload_n 0, 1) := by decide +kernel
theorem d_init_197 : decode c_M_init 197 = .ok (.sipush 1028, 3) := by decide +kernel
theorem d_init_200 : decode c_M_init 200 = .ok (.newarray .int, 2) := by decide +kernel
theorem d_init_202 : decode c_M_init 202 = .ok (.putfield 91, 3) := by decide +kernel
theorem d_init_205 : decode c_M_init 205 = .ok (.aload_n 0, 1) := by decide +kernel
theorem d_init_206 : decode c_M_init 206 = .ok (.sipush 8320, 3) := by decide +kernel
theorem d_init_209 : decode c_M_init 209 = .ok (.newarray .int, 2) := by decide +kernel
theorem d_init_211 : decode c_M_init 211 = .ok (.putfield 94, 3) := by decide +kernel
theorem d_init_214 : decode c_M_init 214 = .ok (.aload_n 0, 1) := by decide +kernel
theorem d_init_215 : decode c_M_init 215 = .ok (.sipush 8320, 3) := by decide +kernel
theorem d_init_218 : decode c_M_init 218 = .ok (.newarray .int, 2) := by decide +kernel
theorem d_init_220 : decode c_M_init 220 = .ok (.putfield 97, 3) := by decide +kernel
theorem d_init_223 : decode c_M_init 223 = .ok (.aload_n 0, 1) := by decide +kernel
theorem d_init_224 : decode c_M_init 224 = .ok (.sipush 8320, 3) := by decide +kernel
theorem d_init_227 : decode c_M_init 227 = .ok (.newarray .int, 2) := by decide +kernel
theorem d_init_229 : decode c_M_init 229 = .ok (.putfield 100, 3) := by decide +kernel
theorem d_init_232 : decode c_M_init 232 = .ok (.aload_n 0, 1) := by decide +kernel
theorem d_init_233 : decode c_M_init 233 = .ok (.sipush 256, 3) := by decide +kernel
theorem d_init_236 : decode c_M_init 236 = .ok (.newarray .int, 2) := by decide +kernel
theorem d_init_238 : decode c_M_init 238 = .ok (.putfield 103, 3) := by decide +kernel
theorem d_init_241 : decode c_M_init 241 = .ok (.aload_n 0, 1) := by decide +kernel
theorem d_init_242 : decode c_M_init 242 = .ok (.iconst 4, 1) := by decide +kernel
theorem d_init_243 : decode c_M_init 243 = .ok (.newarray .boolean, 2) := by decide +kernel
theorem d_init_245 : decode c_M_init 245 = .ok (.putfield 106, 3) := by decide +kernel
theorem d_init_248 : decode c_M_init 248 = .ok (.aload_n 0, 1) := by decide +kernel
theorem d_init_249 : decode c_M_init 249 = .ok (.bipush 64, 2) := by decide +kernel
theorem d_init_251 : decode c_M_init 251 = .ok (.newarray .int, 2) := by decide +kernel
theorem d_init_253 : decode c_M_init 253 = .ok (.putfield 109, 3) := by decide +kernel
theorem d_init_256 : decode c_M_init 256 = .ok (.aload_n 0, 1) := by decide +kernel
theorem d_init_257 : decode c_M_init 257 = .ok (.sipush 1024, 3) := by decide +kernel
theorem d_init_260 : decode c_M_init 260 = .ok (.newarray .int, 2) := by decide +kernel
theorem d_init_262 : decode c_M_init 262 = .ok (.putfield 112, 3) := by decide +kernel
theorem d_init_265 : decode c_M_init 265 = .ok (.aload_n 0, 1) := by decide +kernel
theorem d_init_266 : decode c_M_init 266 = .ok (.iconst 4, 1) := by decide +kernel
theorem d_init_267 : decode c_M_init 267 = .ok (.newarray .boolean, 2) := by decide +kernel
theorem d_init_269 : decode c_M_init 269 = .ok (.putfield 115, 3) := by decide +kernel
theorem d_init_272 : decode c_M_init 272 = .ok (.aload_n 0, 1) := by decide +kernel
theorem d_init_273 : decode c_M_init 273 = .ok (.iconst 3, 1) := by decide +kernel
theorem d_init_274 : decode c_M_init 274 = .ok (.newarray .int, 2) := by decide +kernel
theorem d_init_276 : decode c_M_init 276 = .ok (.putfield 118, 3) := by decide +kernel
theorem d_init_279 : decode c_M_init 279 = .ok (.aload_n 0, 1) := by decide +kernel
theorem d_init_280 : decode c_M_init 280 = .ok (.iconst 3, 1) := by decide +kernel
theorem d_init_281 : decode c_M_init 281 = .ok (.newarray .int, 2) := by decide +kernel
theorem d_init_283 : decode c_M_init 283 = .ok (.putfield 121, 3) := by decide +kernel
theorem d_init_286 : decode c_M_init 286 = .ok (.aload_n 0, 1) := by decide +kernel
theorem d_init_287 : decode c_M_init 287 = .ok (.sipush 192, 3) := by decide +kernel
theorem d_init_290 : decode c_M_init 290 = .ok (.newarray .int, 2) := by decide +kernel
theorem d_init_292 : decode c_M_init 292 = .ok (.putfield 124, 3) := by decide +kernel
theorem d_init_295 : decode c_M_init 295 = .ok (.aload_n 0, 1) := by decide +kernel
theorem d_init_296 : decode c_M_init 296 = .ok (.iconst 3, 1) := by decide +kernel
theorem d_init_297 : decode c_M_init 297 = .ok (.newarray .boolean, 2) := by decide +kernel
theorem d_init_299 : decode c_M_init 299 = .ok (.putfield 127, 3) := by decide +kernel
theorem d_init_302 : decode c_M_init 302 = .ok (.aload_n 0, 1) := by decide +kernel
theorem d_init_303 : decode c_M_init 303 = .ok (.iconst 3, 1) := by decide +kernel
theorem d_init_304 : decode c_M_init 304 = .ok (.newarray .int, 2) := by decide +kernel
theorem d_init_306 : decode c_M_init 306 = .ok (.putfield 130, 3) := by decide +kernel
theorem d_init_309 : decode c_M_init 309 = .ok (.aload_n 0, 1) := by decide +kernel
theorem d_init_310 : decode c_M_init 310 = .ok (.iconst 3, 1) := by decide +kernel
theorem d_init_311 : decode c_M_init 311 = .ok (.newarray .int, 2) := by decide +kernel
theorem d_init_313 : decode c_M_init 313 = .ok (.putfield 133, 3) := by decide +kernel
theorem d_init_316 : decode c_M_init 316 = .ok (.aload_n 0, 1) := by decide +kernel
theorem d_init_317 : decode c_M_init 317 = .ok (.iconst 3, 1) := by decide +kernel
theorem d_init_318 : decode c_M_init 318 = .ok (.newarray .int, 2) := by decide +kernel
theorem d_init_320 : decode c_M_init 320 = .ok (.putfield 136, 3) := by decide +kernel
theorem d_init_323 : decode c_M_init 323 = .ok (.aload_n 0, 1) := by decide +kernel
theorem d_init_324 : decode c_M_init 324 = .ok (.iconst 3, 1) := by decide +kernel
theorem d_init_325 : decode c_M_init 325 = .ok (.newarray .int, 2) := by decide +kernel
theorem d_init_327 : decode c_M_init 327 = .ok (.putfield 139, 3) := by decide +kernel
theorem d_init_330 : decode c_M_init 330 = .ok (.iconst 0, 1) := by decide +kernel
theorem d_init_331 : decode c_M_init 331 = .ok (.istore_n 1, 1) := by decide +kernel
theorem d_init_332 : decode c_M_init 332 = .ok (.iload_n 1, 1) := by decide +kernel
theorem d_init_333 : decode c_M_init 333 = .ok (.sipush 128, 3) := by decide +kernel
theorem d_init_336 : decode c_M_init 336 = .ok (.if_icmp .ge 16, 3) := by decide +kernel
theorem d_init_339 : decode c_M_init 339 = .ok (.aload_n 0, 1) := by decide +kernel
theorem d_init_340 : decode c_M_init 340 = .ok (.getfield 23, 3) := by decide +kernel
theorem d_init_343 : decode c_M_init 343 = .ok (.iload_n 1, 1) := by decide +kernel
theorem d_init_344 : decode c_M_init 344 = .ok (.iconst 1, 1) := by decide +kernel
theorem d_init_345 : decode c_M_init 345 = .ok (.iastore, 1) := by decide +kernel
theorem d_init_346 : decode c_M_init 346 = .ok (.iinc 1 1, 3) := by decide +kernel
theorem d_init_349 : decode c_M_init 349 = .ok (.goto (-17), 3) := by decide +kernel
theorem d_init_352 : decode c_M_init 352 = .ok (.iconst 0, 1) := by decide +kernel
theorem d_init_353 : decode c_M_init 353 = .ok (.istore_n 1, 1) := by decide +kernel
theorem d_init_354 : decode c_M_init 354 = .ok (.iconst 0, 1) := by decide +kernel
theorem d_init_355 : decode c_M_init 355 = .ok (.istore_n 2, 1) := by decide +kernel
theorem d_init_356 : decode c_M_init 356 = .ok (.iload_n 2, 1) := by decide +kernel
theorem d_init_357 : decode c_M_init 357 = .ok (.bipush 15, 2) := by decide +kernel
theorem d_init_359 : decode c_M_init 359 = .ok (.if_icmp .ge 73, 3) := by decide +kernel
theorem d_init_362 : decode c_M_init 362 = .ok (.iconst 0, 1) := by decide +kernel
theorem d_init_363 : decode c_M_init 363 = .ok (.istore_n 3, 1) := by decide +kernel
theorem d_init_364 : decode c_M_init 364 = .ok (.iload_n 3, 1) := by decide +kernel
theorem d_init_365 : decode c_M_init 365 = .ok (.iload_n 2, 1) := by decide +kernel
theorem d_init_366 : decode c_M_init 366 = .ok (.if_icmp .gt 60, 3) := by decide +kernel
theorem d_init_369 : decode c_M_init 369 = .ok (.iload_n 2, 1) := by decide +kernel
theorem d_init_370 : decode c_M_init 370 = .ok (.iconst 2, 1) := by decide +kernel
theorem d_init_371 : decode c_M_init 371 = .ok (.irem, 1) := by decide +kernel
theorem d_init_372 : decode c_M_init 372 = .ok (.iconst 1, 1) := by decide +kernel
theorem d_init_373 : decode c_M_init 373 = .ok (.if_icmp .ne 7, 3) := by decide +kernel
theorem d_init_376 : decode c_M_init 376 = .ok (.iload_n 3, 1) := by decide +kernel
theorem d_init_377 : decode c_M_init 377 = .ok (.goto 6, 3) := by decide +kernel
theorem d_init_380 : decode c_M_init 380 = .ok (.iload_n 2, 1) := by decide +kernel
theorem d_init_381 : decode c_M_init 381 = .ok (.iload_n 3, 1) := by decide +kernel
theorem d_init_382 : decode c_M_init 382 = .ok (.isub, 1) := by decide +kernel
theorem d_init_383 : decode c_M_init 383 = .ok (.istore 4, 2) := by decide +kernel
theorem d_init_385 : decode c_M_init 385 = .ok (.iload 4, 2) := by decide +kernel
theorem d_init_387 : decode c_M_init 387 = .ok (.bipush 8, 2) := by decide +kernel
theorem d_init_389 : decode c_M_init 389 = .ok (.if_icmp .ge 31, 3) := by decide +kernel
theorem d_init_392 : decode c_M_init 392 = .ok (.iload_n 2, 1) := by decide +kernel
theorem d_init_393 : decode c_M_init 393 = .ok (.iload 4, 2) := by decide +kernel
theorem d_init_395 : decode c_M_init 395 = .ok (.isub, 1) := by decide +kernel
theorem d_init_396 : decode c_M_init 396 = .ok (.bipush 8, 2) := by decide +kernel
theorem d_init_398 : decode c_M_init 398 = .ok (.if_icmp .ge 22, 3) := by decide +kernel
theorem d_init_401 : decode c_M_init 401 = .ok (.aload_n 0, 1) := by decide +kernel
theorem d_init_402 : decode c_M_init 402 = .ok (.getfield 72, 3) := by decide +kernel
theorem d_init_405 : decode c_M_init 405 = .ok (.iload_n 1, 1) := by decide +kernel
theorem d_init_406 : decode c_M_init 406 = .ok (.bipush 8, 2) := by decide +kernel
theorem d_init_408 : decode c_M_init 408 = .ok (.iload 4, 2) := by decide +kernel
theorem d_init_410 : decode c_M_init 410 = .ok (.imul, 1) := by decide +kernel
theorem d_init_411 : decode c_M_init 411 = .ok (.iload_n 2, 1) := by decide +kernel
theorem d_init_412 : decode c_M_init 412 = .ok (.iadd, 1) := by decide +kernel
theorem d_init_413 : decode c_M_init 413 = .ok (.iload 4, 2) := by decide +kernel
theorem d_init_415 : decode c_M_init 415 = .ok (.isub, 1) := by decide +kernel
theorem d_init_416 : decode c_M_init 416 = .ok (.iastore, 1) := by decide +kernel
theorem d_init_417 : decode c_M_init 417 = .ok (.iinc 1 1, 3) := by decide +kernel
theorem d_init_420 : decode c_M_init 420 = .ok (.iinc 3 1, 3) := by decide +kernel
theorem d_init_423 : decode c_M_init 423 = .ok (.goto (-59), 3) := by decide +kernel
theorem d_init_426 : decode c_M_init 426 = .ok (.iinc 2 1, 3) := by decide +kernel
theorem d_init_429 : decode c_M_init 429 = .ok (.goto (-73), 3) := by decide +kernel
theorem d_init_432 : decode c_M_init 432 = .ok (.iconst 0, 1) := by decide +kernel
theorem d_init_433 : decode c_M_init 433 = .ok (.istore_n 2, 1) := by decide +kernel
theorem d_init_434 : decode c_M_init 434 = .ok (.iload_n 2, 1) := by decide +kernel
theorem d_init_435 : decode c_M_init 435 = .ok (.bipush 8, 2) := by decide +kernel
theorem d_init_437 : decode c_M_init 437 = .ok (.if_icmp .ge 57, 3) := by decide +kernel
theorem d_init_440 : decode c_M_init 440 = .ok (.iconst 0, 1) := by decide +kernel
theorem d_init_441 : decode c_M_init 441 = .ok (.istore_n 3, 1) := by decide +kernel
theorem d_init_442 : decode c_M_init 442 = .ok (.iload_n 3, 1) := by decide +kernel
theorem d_init_443 : decode c_M_init 443 = .ok (.bipush 8, 2) := by decide +kernel
theorem d_init_445 : decode c_M_init 445 = .ok (.if_icmp .ge 43, 3) := by decide +kernel
theorem d_init_448 : decode c_M_init 448 = .ok (.aload_n 0, 1) := by decide +kernel
theorem d_init_449 : decode c_M_init 449 = .ok (.getfield 75, 3) := by decide +kernel
theorem d_init_452 : decode c_M_init 452 = .ok (.bipush 8, 2) := by decide +kernel
theorem d_init_454 : decode c_M_init 454 = .ok (.iload_n 2, 1) := by decide +kernel
theorem d_init_455 : decode c_M_init 455 = .ok (.imul, 1) := by decide +kernel
theorem d_init_456 : decode c_M_init 456 = .ok (.iload_n 3, 1) := by decide +kernel
theorem d_init_457 : decode c_M_init 457 = .ok (.iadd, 1) := by decide +kernel
theorem d_init_458 : decode c_M_init 458 = .ok (.iload_n 3, 1) := by decide +kernel
theorem d_init_459 : decode c_M_init 459 = .ok (.ifCond .ne 9, 3) := by decide +kernel
theorem d_init_462 : decode c_M_init 462 = .ok (.sipush 2896, 3) := by decide +kernel
theorem d_init_465 : decode c_M_init 465 = .ok (.goto 16, 3) := by decide +kernel
theorem d_init_468 : decode c_M_init 468 = .ok (.iconst 2, 1) := by decide +kernel
theorem d_init_469 : decode c_M_init 469 = .ok (.iload_n 2, 1) := by decide +kernel
theorem d_init_470 : decode c_M_init 470 = .ok (.imul, 1) := by decide +kernel
theorem d_init_471 : decode c_M_init 471 = .ok (.iconst 1, 1) := by decide +kernel
theorem d_init_472 : decode c_M_init 472 = .ok (.iadd, 1) := by decide +kernel
theorem d_init_473 : decode c_M_init 473 = .ok (.iload_n 3, 1) := by decide +kernel
theorem d_init_474 : decode c_M_init 474 = .ok (.imul, 1) := by decide +kernel
theorem d_init_475 : decode c_M_init 475 = .ok (.bipush 32, 2) := by decide +kernel
theorem d_init_477 : decode c_M_init 477 = .ok (.irem, 1) := by decide +kernel
theorem d_init_478 : decode c_M_init 478 = .ok (.invokestatic 142, 3) := by decide +kernel
theorem d_init_481 : decode c_M_init 481 = .ok (.iastore, 1) := by decide +kernel
theorem d_init_482 : decode c_M_init 482 = .ok (.iinc 3 1, 3) := by decide +kernel
theorem d_init_485 : decode c_M_init 485 = .ok (.goto (-43), 3) := by decide +kernel
theorem d_init_488 : decode c_M_init 488 = .ok (.iinc 2 1, 3) := by decide +kernel
theorem d_init_491 : decode c_M_init 491 = .ok (.goto (-57), 3) := by decide +kernel
theorem d_init_494 : decode c_M_init 494 = .ok (.return_, 1) := by decide +kernel
def b_init_481 (x2 : Int32) (x3 : Int32) (s1 : Int32) (s2 : Int32) (S : ms) (R434 : Int32 → ms → Prop) (R442 : Int32 → Int32 → ms → Prop) (K : ms → Prop) : Prop :=
  vp_in s1 64 ∧ (R442 x2 (x3 + 1) (S.1, va_up S.2.1 23 (upd (S.2.1 23) s1.toNatClampNeg s2), S.2.2))
def b_init_442 (x2 : Int32) (x3 : Int32) (S : ms) (R434 : Int32 → ms → Prop) (R442 : Int32 → Int32 → ms → Prop) (K : ms → Prop) : Prop :=
  (8 ≤ x3 → (R434 (x2 + 1) S)) ∧ (¬ (8 ≤ x3) → ((¬ x3 = 0 → (p_turn1 ((((2 * x2) + 1) * x3) - (((2 * x2) + 1) * x3) / 32 * 32) (fun v478 => b_init_481 x2 x3 ((8 * x2) + x3) v478 S R434 R442 K))) ∧ (x3 = 0 → (b_init_481 x2 x3 ((8 * x2) + x3) 2896 S R434 R442 K))))
def e_init_442 (x2 : Int32) (x3 : Int32) (S : ms) (R434 : Int32 → ms → Prop) (K : ms → Prop) : Prop :=
  ∃ (I : Int32 → Int32 → ms → Prop) (μ : Int32 → Int32 → ms → Nat), I x2 x3 S ∧ ∀ yx2 yx3 yS, I yx2 yx3 yS → b_init_442 yx2 yx3 yS R434 (fun zx2 zx3 zS => I zx2 zx3 zS ∧ μ zx2 zx3 zS < μ yx2 yx3 yS) K
def b_init_434 (x2 : Int32) (S : ms) (R434 : Int32 → ms → Prop) (K : ms → Prop) : Prop :=
  (8 ≤ x2 → (K S)) ∧ (¬ (8 ≤ x2) → (e_init_442 x2 0 S R434 K))
def e_init_434 (x2 : Int32) (S : ms) (K : ms → Prop) : Prop :=
  ∃ (I : Int32 → ms → Prop) (μ : Int32 → ms → Nat), I x2 S ∧ ∀ yx2 yS, I yx2 yS → b_init_434 yx2 yS (fun zx2 zS => I zx2 zS ∧ μ zx2 zS < μ yx2 yS) K
def b_init_420 (x1 : Int32) (x2 : Int32) (x3 : Int32) (S : ms) (R356 : Int32 → Int32 → ms → Prop) (R364 : Int32 → Int32 → Int32 → ms → Prop) (K : ms → Prop) : Prop :=
  R364 x1 x2 (x3 + 1) S
def b_init_383 (x1 : Int32) (x2 : Int32) (x3 : Int32) (s0 : Int32) (S : ms) (R356 : Int32 → Int32 → ms → Prop) (R364 : Int32 → Int32 → Int32 → ms → Prop) (K : ms → Prop) : Prop :=
  (8 ≤ s0 → (b_init_420 x1 x2 x3 S R356 R364 K)) ∧ (¬ (8 ≤ s0) → ((8 ≤ (x2 - s0) → (b_init_420 x1 x2 x3 S R356 R364 K)) ∧ (¬ (8 ≤ (x2 - s0)) → (vp_in x1 64 ∧ (b_init_420 (x1 + 1) x2 x3 (S.1, va_up S.2.1 22 (upd (S.2.1 22) x1.toNatClampNeg (((8 * s0) + x2) - s0)), S.2.2) R356 R364 K)))))
def b_init_364 (x1 : Int32) (x2 : Int32) (x3 : Int32) (S : ms) (R356 : Int32 → Int32 → ms → Prop) (R364 : Int32 → Int32 → Int32 → ms → Prop) (K : ms → Prop) : Prop :=
  (x2 < x3 → (R356 x1 (x2 + 1) S)) ∧ (¬ (x2 < x3) → ((¬ (x2 - x2 / 2 * 2) = 1 → (b_init_383 x1 x2 x3 (x2 - x3) S R356 R364 K)) ∧ ((x2 - x2 / 2 * 2) = 1 → (b_init_383 x1 x2 x3 x3 S R356 R364 K))))
def e_init_364 (x1 : Int32) (x2 : Int32) (x3 : Int32) (S : ms) (R356 : Int32 → Int32 → ms → Prop) (K : ms → Prop) : Prop :=
  ∃ (I : Int32 → Int32 → Int32 → ms → Prop) (μ : Int32 → Int32 → Int32 → ms → Nat), I x1 x2 x3 S ∧ ∀ yx1 yx2 yx3 yS, I yx1 yx2 yx3 yS → b_init_364 yx1 yx2 yx3 yS R356 (fun zx1 zx2 zx3 zS => I zx1 zx2 zx3 zS ∧ μ zx1 zx2 zx3 zS < μ yx1 yx2 yx3 yS) K
def b_init_356 (x1 : Int32) (x2 : Int32) (S : ms) (R356 : Int32 → Int32 → ms → Prop) (K : ms → Prop) : Prop :=
  (15 ≤ x2 → (e_init_434 0 S K)) ∧ (¬ (15 ≤ x2) → (e_init_364 x1 x2 0 S R356 K))
def e_init_356 (x1 : Int32) (x2 : Int32) (S : ms) (K : ms → Prop) : Prop :=
  ∃ (I : Int32 → Int32 → ms → Prop) (μ : Int32 → Int32 → ms → Nat), I x1 x2 S ∧ ∀ yx1 yx2 yS, I yx1 yx2 yS → b_init_356 yx1 yx2 yS (fun zx1 zx2 zS => I zx1 zx2 zS ∧ μ zx1 zx2 zS < μ yx1 yx2 yS) K
def b_init_332 (x1 : Int32) (S : ms) (R332 : Int32 → ms → Prop) (K : ms → Prop) : Prop :=
  (128 ≤ x1 → (e_init_356 0 0 S K)) ∧ (¬ (128 ≤ x1) → (vp_in x1 128 ∧ (R332 (x1 + 1) (S.1, va_up S.2.1 5 (upd (S.2.1 5) x1.toNatClampNeg 1), S.2.2))))
def e_init_332 (x1 : Int32) (S : ms) (K : ms → Prop) : Prop :=
  ∃ (I : Int32 → ms → Prop) (μ : Int32 → ms → Nat), I x1 S ∧ ∀ yx1 yS, I yx1 yS → b_init_332 yx1 yS (fun zx1 zS => I zx1 zS ∧ μ zx1 zS < μ yx1 yS) K
def p_init  (S : ms) (K : ms → Prop) : Prop :=
  e_init_332 0 S K
section M_init
variable {D : va_G} {z : Nat → ClassId} {A : Nat → Prop} {X : cx} {L0 : fw} {K : ms → Prop} {o : Nat} {ad : Nat → Nat}
set_option maxRecDepth 100000 in
set_option maxHeartbeats 1000000 in
theorem s_init_481 (C : fcx gG D z A X R_M c_M_init 5 (none)) (hQ : X.2.2.2.2.2.2.2.2.2.2 = eQ gG D z X.2.2.2.2.2.2.2.1 X.2.2.2.2.1 L0 38 193881 (pM_n K o)) (hA : A = owA gG L0 X.2.2.2.2.1.heap.size) (hR : X.2.2.2.1 = { frames := 2, cells := 39, slots := 193887, locals := 200 }) (x2 : Int32) (x3 : Int32) (s1 : Int32) (s2 : Int32) (S : ms) (R434 : Int32 → ms → Prop) (hR434 : ∀ yx2 yS, R434 yx2 yS → aw gG D z A X 5 434 [some (.ref o), none, some (.int yx2), none, none] [] [(0, ly_M, (o, ad, yS.1, yS.2.1, yS.2.2))] 38 193881) (R442 : Int32 → Int32 → ms → Prop) (hR442 : ∀ yx2 yx3 yS, R442 yx2 yx3 yS → aw gG D z A X 5 442 [some (.ref o), none, some (.int yx2), some (.int yx3), none] [] [(0, ly_M, (o, ad, yS.1, yS.2.1, yS.2.2))] 38 193881) (hp : b_init_481 x2 x3 s1 s2 S R434 R442 K) : aw gG D z A X 5 481 [some (.ref o), none, some (.int x2), some (.int x3), none] [.int s2, .int s1, .ref (ad 23)] [(0, ly_M, (o, ad, S.1, S.2.1, S.2.2))] 38 193881 := by
  unfold b_init_481 at hp
  refine a_iast C 0 23 d_init_481 rfl rfl rfl hp.1 ?_
  have hp := hp.2
  refine aw_eq (lo' := _) (st' := _) (L' := [(0, ly_M, (o, ad, S.1, va_up S.2.1 23 (upd (S.2.1 23) s1.toNatClampNeg s2), S.2.2))]) rfl rfl rfl ?_
  refine a_iinc (v := x3 + 1) (lo' := [some (.ref o), none, some (.int x2), some (.int (x3 + 1)), none]) C d_init_482 rfl rfl (by decide) rfl ?_
  refine a_goto (tgt := 442) C d_init_485 (by decide) ?_
  refine aw_lo (lo' := [some (.ref o), none, some (.int x2), some (.int (x3 + 1)), none]) ⟨.inr rfl, .inr rfl, .inr rfl, .inr rfl, .inr rfl, trivial⟩ ?_
  exact hR442 x2 (x3 + 1) (S.1, va_up S.2.1 23 (upd (S.2.1 23) s1.toNatClampNeg s2), S.2.2) hp
set_option maxRecDepth 100000 in
set_option maxHeartbeats 1000000 in
theorem s_init_442 (C : fcx gG D z A X R_M c_M_init 5 (none)) (hQ : X.2.2.2.2.2.2.2.2.2.2 = eQ gG D z X.2.2.2.2.2.2.2.1 X.2.2.2.2.1 L0 38 193881 (pM_n K o)) (hA : A = owA gG L0 X.2.2.2.2.1.heap.size) (hR : X.2.2.2.1 = { frames := 2, cells := 39, slots := 193887, locals := 200 }) (x2 : Int32) (x3 : Int32) (S : ms) (R434 : Int32 → ms → Prop) (hR434 : ∀ yx2 yS, R434 yx2 yS → aw gG D z A X 5 434 [some (.ref o), none, some (.int yx2), none, none] [] [(0, ly_M, (o, ad, yS.1, yS.2.1, yS.2.2))] 38 193881) (R442 : Int32 → Int32 → ms → Prop) (hR442 : ∀ yx2 yx3 yS, R442 yx2 yx3 yS → aw gG D z A X 5 442 [some (.ref o), none, some (.int yx2), some (.int yx3), none] [] [(0, ly_M, (o, ad, yS.1, yS.2.1, yS.2.2))] 38 193881) (hp : b_init_442 x2 x3 S R434 R442 K) : aw gG D z A X 5 442 [some (.ref o), none, some (.int x2), some (.int x3), none] [] [(0, ly_M, (o, ad, S.1, S.2.1, S.2.2))] 38 193881 := by
  unfold b_init_442 at hp
  refine a_iload_n C d_init_442 rfl rfl ?_
  refine a_bipush (v := 8) C d_init_443 (by decide) ?_
  refine a_icmp_ge (tgt := 488) C d_init_445 (by decide) ⟨fun hc => ?_, fun hc => ?_⟩
  · have hp := hp.1 hc
    refine a_iinc (v := x2 + 1) (lo' := [some (.ref o), none, some (.int (x2 + 1)), some (.int x3), none]) C d_init_488 rfl rfl (by decide) rfl ?_
    refine a_goto (tgt := 434) C d_init_491 (by decide) ?_
    refine aw_lo (lo' := [some (.ref o), none, some (.int (x2 + 1)), none, none]) ⟨.inr rfl, .inr rfl, .inr rfl, .inl rfl, .inr rfl, trivial⟩ ?_
    exact hR434 (x2 + 1) S hp
  · have hp := hp.2 hc
    refine a_aload_n C d_init_448 rfl rfl ?_
    refine a_getR C 0 23 d_init_449 rfl rfl rfl (Nat.le_of_ble_eq_true rfl) f_M_75 ⟨Nat.le_of_ble_eq_true rfl, Nat.le_of_ble_eq_true rfl⟩ ?_
    refine a_bipush (v := 8) C d_init_452 (by decide) ?_
    refine a_iload_n C d_init_454 rfl rfl ?_
    refine a_imul C d_init_455 ?_
    refine a_iload_n C d_init_456 rfl rfl ?_
    refine a_iadd C d_init_457 ?_
    refine a_iload_n C d_init_458 rfl rfl ?_
    refine a_if_ne (tgt := 468) C d_init_459 (by decide) ⟨fun hc => ?_, fun hc => ?_⟩
    · have hp := hp.1 hc
      refine a_iconst (v := 2) C d_init_468 (by decide) ?_
      refine a_iload_n C d_init_469 rfl rfl ?_
      refine a_imul C d_init_470 ?_
      refine a_iconst (v := 1) C d_init_471 (by decide) ?_
      refine a_iadd C d_init_472 ?_
      refine a_iload_n C d_init_473 rfl rfl ?_
      refine a_imul C d_init_474 ?_
      refine a_bipush (v := 32) C d_init_475 (by decide) ?_
      refine a_irem C d_init_477 (by decide) ?_
      refine a_call (Lr := [(0, ly_M, (o, ad, S.1, S.2.1, S.2.2))]) (rest := [.int ((8 * x2) + x3), .ref (ad 23)]) (av := [.int ((((2 * x2) + 1) * x3) - (((2 * x2) + 1) * x3) / 32 * 32)]) C [] [0] d_init_478 (ct_turn1 ((((2 * x2) + 1) * x3) - (((2 * x2) + 1) * x3) / 32 * 32) hp) cd_M_turn1 i_M (Nat.le_of_ble_eq_true rfl) (by rw [hR]; exact Nat.le_of_ble_eq_true rfl) (by rw [hR]; exact Nat.le_of_ble_eq_true rfl) (by rw [hR]; exact Nat.le_of_ble_eq_true rfl) (by rw [hR]; exact Nat.le_of_ble_eq_true rfl) rfl rfl (by decide) (by decide) (by decide) (inv_S C d_init_478 l_M_142 st_M_turn1 i_M cd_M_turn1 ⟨by decide, by decide⟩ ln_M_turn1 rfl) (fun oc L1 hL => ?_)
      obtain ⟨v478, hp, rfl, rfl⟩ := hL
      refine ⟨_, rfl, ?_⟩
      refine aw_eq (lo' := _) (st' := [.int v478, .int ((8 * x2) + x3), .ref (ad 23)]) (L' := [(0, ly_M, (o, ad, S.1, S.2.1, S.2.2))]) rfl rfl rfl ?_
      refine aw_lo (lo' := [some (.ref o), none, some (.int x2), some (.int x3), none]) ⟨.inr rfl, .inr rfl, .inr rfl, .inr rfl, .inr rfl, trivial⟩ ?_
      exact s_init_481 C hQ hA hR x2 x3 ((8 * x2) + x3) v478 S R434 hR434 R442 hR442 hp
    · have hp := hp.2 hc
      refine a_sipush (v := 2896) C d_init_462 (by decide) ?_
      refine a_goto (tgt := 481) C d_init_465 (by decide) ?_
      refine aw_lo (lo' := [some (.ref o), none, some (.int x2), some (.int x3), none]) ⟨.inr rfl, .inr rfl, .inr rfl, .inr rfl, .inr rfl, trivial⟩ ?_
      exact s_init_481 C hQ hA hR x2 x3 ((8 * x2) + x3) 2896 S R434 hR434 R442 hR442 hp
set_option maxRecDepth 100000 in
set_option maxHeartbeats 1000000 in
theorem se_init_442 (C : fcx gG D z A X R_M c_M_init 5 (none)) (hQ : X.2.2.2.2.2.2.2.2.2.2 = eQ gG D z X.2.2.2.2.2.2.2.1 X.2.2.2.2.1 L0 38 193881 (pM_n K o)) (hA : A = owA gG L0 X.2.2.2.2.1.heap.size) (hR : X.2.2.2.1 = { frames := 2, cells := 39, slots := 193887, locals := 200 }) (x2 : Int32) (x3 : Int32) (S : ms) (R434 : Int32 → ms → Prop) (hR434 : ∀ yx2 yS, R434 yx2 yS → aw gG D z A X 5 434 [some (.ref o), none, some (.int yx2), none, none] [] [(0, ly_M, (o, ad, yS.1, yS.2.1, yS.2.2))] 38 193881) (hp : e_init_442 x2 x3 S R434 K) : aw gG D z A X 5 442 [some (.ref o), none, some (.int x2), some (.int x3), none] [] [(0, ly_M, (o, ad, S.1, S.2.1, S.2.2))] 38 193881 := by
  obtain ⟨I, μ, h0, hs⟩ := hp
  have key : ∀ (n : Nat) (yx2 : Int32) (yx3 : Int32) (yS : ms), μ yx2 yx3 yS < n → I yx2 yx3 yS → aw gG D z A X 5 442 [some (.ref o), none, some (.int yx2), some (.int yx3), none] [] [(0, ly_M, (o, ad, yS.1, yS.2.1, yS.2.2))] 38 193881 := by
    intro n
    induction n with
    | zero => intro yx2 yx3 yS h; omega
    | succ n ih =>
      intro yx2 yx3 yS hn hI
      exact s_init_442 C hQ hA hR yx2 yx3 yS R434 hR434 _ (fun zx2 zx3 zS hw => ih zx2 zx3 zS (by omega) hw.1) (hs yx2 yx3 yS hI)
  exact key (μ x2 x3 S + 1) x2 x3 S (Nat.lt_succ_self _) h0
set_option maxRecDepth 100000 in
set_option maxHeartbeats 1000000 in
theorem s_init_434 (C : fcx gG D z A X R_M c_M_init 5 (none)) (hQ : X.2.2.2.2.2.2.2.2.2.2 = eQ gG D z X.2.2.2.2.2.2.2.1 X.2.2.2.2.1 L0 38 193881 (pM_n K o)) (hA : A = owA gG L0 X.2.2.2.2.1.heap.size) (hR : X.2.2.2.1 = { frames := 2, cells := 39, slots := 193887, locals := 200 }) (x2 : Int32) (S : ms) (R434 : Int32 → ms → Prop) (hR434 : ∀ yx2 yS, R434 yx2 yS → aw gG D z A X 5 434 [some (.ref o), none, some (.int yx2), none, none] [] [(0, ly_M, (o, ad, yS.1, yS.2.1, yS.2.2))] 38 193881) (hp : b_init_434 x2 S R434 K) : aw gG D z A X 5 434 [some (.ref o), none, some (.int x2), none, none] [] [(0, ly_M, (o, ad, S.1, S.2.1, S.2.2))] 38 193881 := by
  unfold b_init_434 at hp
  refine a_iload_n C d_init_434 rfl rfl ?_
  refine a_bipush (v := 8) C d_init_435 (by decide) ?_
  refine a_icmp_ge (tgt := 494) C d_init_437 (by decide) ⟨fun hc => ?_, fun hc => ?_⟩
  · have hp := hp.1 hc
    exact a_vret C hQ hA d_init_494 rfl ⟨ad, S, hp, rfl, rfl⟩
  · have hp := hp.2 hc
    refine a_iconst (v := 0) C d_init_440 (by decide) ?_
    refine a_istore_n (lo' := [some (.ref o), none, some (.int x2), some (.int 0), none]) C d_init_441 rfl (by decide) rfl ?_
    refine aw_lo (lo' := [some (.ref o), none, some (.int x2), some (.int 0), none]) ⟨.inr rfl, .inr rfl, .inr rfl, .inr rfl, .inr rfl, trivial⟩ ?_
    exact se_init_442 C hQ hA hR x2 0 S R434 hR434 hp
set_option maxRecDepth 100000 in
set_option maxHeartbeats 1000000 in
theorem se_init_434 (C : fcx gG D z A X R_M c_M_init 5 (none)) (hQ : X.2.2.2.2.2.2.2.2.2.2 = eQ gG D z X.2.2.2.2.2.2.2.1 X.2.2.2.2.1 L0 38 193881 (pM_n K o)) (hA : A = owA gG L0 X.2.2.2.2.1.heap.size) (hR : X.2.2.2.1 = { frames := 2, cells := 39, slots := 193887, locals := 200 }) (x2 : Int32) (S : ms) (hp : e_init_434 x2 S K) : aw gG D z A X 5 434 [some (.ref o), none, some (.int x2), none, none] [] [(0, ly_M, (o, ad, S.1, S.2.1, S.2.2))] 38 193881 := by
  obtain ⟨I, μ, h0, hs⟩ := hp
  have key : ∀ (n : Nat) (yx2 : Int32) (yS : ms), μ yx2 yS < n → I yx2 yS → aw gG D z A X 5 434 [some (.ref o), none, some (.int yx2), none, none] [] [(0, ly_M, (o, ad, yS.1, yS.2.1, yS.2.2))] 38 193881 := by
    intro n
    induction n with
    | zero => intro yx2 yS h; omega
    | succ n ih =>
      intro yx2 yS hn hI
      exact s_init_434 C hQ hA hR yx2 yS _ (fun zx2 zS hw => ih zx2 zS (by omega) hw.1) (hs yx2 yS hI)
  exact key (μ x2 S + 1) x2 S (Nat.lt_succ_self _) h0
set_option maxRecDepth 100000 in
set_option maxHeartbeats 1000000 in
theorem s_init_420 (C : fcx gG D z A X R_M c_M_init 5 (none)) (hQ : X.2.2.2.2.2.2.2.2.2.2 = eQ gG D z X.2.2.2.2.2.2.2.1 X.2.2.2.2.1 L0 38 193881 (pM_n K o)) (hA : A = owA gG L0 X.2.2.2.2.1.heap.size) (hR : X.2.2.2.1 = { frames := 2, cells := 39, slots := 193887, locals := 200 }) (x1 : Int32) (x2 : Int32) (x3 : Int32) (S : ms) (R356 : Int32 → Int32 → ms → Prop) (hR356 : ∀ yx1 yx2 yS, R356 yx1 yx2 yS → aw gG D z A X 5 356 [some (.ref o), some (.int yx1), some (.int yx2), none, none] [] [(0, ly_M, (o, ad, yS.1, yS.2.1, yS.2.2))] 38 193881) (R364 : Int32 → Int32 → Int32 → ms → Prop) (hR364 : ∀ yx1 yx2 yx3 yS, R364 yx1 yx2 yx3 yS → aw gG D z A X 5 364 [some (.ref o), some (.int yx1), some (.int yx2), some (.int yx3), none] [] [(0, ly_M, (o, ad, yS.1, yS.2.1, yS.2.2))] 38 193881) (hp : b_init_420 x1 x2 x3 S R356 R364 K) : aw gG D z A X 5 420 [some (.ref o), some (.int x1), some (.int x2), some (.int x3), none] [] [(0, ly_M, (o, ad, S.1, S.2.1, S.2.2))] 38 193881 := by
  unfold b_init_420 at hp
  refine a_iinc (v := x3 + 1) (lo' := [some (.ref o), some (.int x1), some (.int x2), some (.int (x3 + 1)), none]) C d_init_420 rfl rfl (by decide) rfl ?_
  refine a_goto (tgt := 364) C d_init_423 (by decide) ?_
  refine aw_lo (lo' := [some (.ref o), some (.int x1), some (.int x2), some (.int (x3 + 1)), none]) ⟨.inr rfl, .inr rfl, .inr rfl, .inr rfl, .inr rfl, trivial⟩ ?_
  exact hR364 x1 x2 (x3 + 1) S hp
set_option maxRecDepth 100000 in
set_option maxHeartbeats 1000000 in
theorem s_init_383 (C : fcx gG D z A X R_M c_M_init 5 (none)) (hQ : X.2.2.2.2.2.2.2.2.2.2 = eQ gG D z X.2.2.2.2.2.2.2.1 X.2.2.2.2.1 L0 38 193881 (pM_n K o)) (hA : A = owA gG L0 X.2.2.2.2.1.heap.size) (hR : X.2.2.2.1 = { frames := 2, cells := 39, slots := 193887, locals := 200 }) (x1 : Int32) (x2 : Int32) (x3 : Int32) (s0 : Int32) (S : ms) (R356 : Int32 → Int32 → ms → Prop) (hR356 : ∀ yx1 yx2 yS, R356 yx1 yx2 yS → aw gG D z A X 5 356 [some (.ref o), some (.int yx1), some (.int yx2), none, none] [] [(0, ly_M, (o, ad, yS.1, yS.2.1, yS.2.2))] 38 193881) (R364 : Int32 → Int32 → Int32 → ms → Prop) (hR364 : ∀ yx1 yx2 yx3 yS, R364 yx1 yx2 yx3 yS → aw gG D z A X 5 364 [some (.ref o), some (.int yx1), some (.int yx2), some (.int yx3), none] [] [(0, ly_M, (o, ad, yS.1, yS.2.1, yS.2.2))] 38 193881) (hp : b_init_383 x1 x2 x3 s0 S R356 R364 K) : aw gG D z A X 5 383 [some (.ref o), some (.int x1), some (.int x2), some (.int x3), none] [.int s0] [(0, ly_M, (o, ad, S.1, S.2.1, S.2.2))] 38 193881 := by
  unfold b_init_383 at hp
  refine a_istore (lo' := [some (.ref o), some (.int x1), some (.int x2), some (.int x3), some (.int s0)]) C d_init_383 (by decide) rfl ?_
  refine a_iload C d_init_385 rfl ?_
  refine a_bipush (v := 8) C d_init_387 (by decide) ?_
  refine a_icmp_ge (tgt := 420) C d_init_389 (by decide) ⟨fun hc => ?_, fun hc => ?_⟩
  · have hp := hp.1 hc
    refine aw_lo (lo' := [some (.ref o), some (.int x1), some (.int x2), some (.int x3), none]) ⟨.inr rfl, .inr rfl, .inr rfl, .inr rfl, .inl rfl, trivial⟩ ?_
    exact s_init_420 C hQ hA hR x1 x2 x3 S R356 hR356 R364 hR364 hp
  · have hp := hp.2 hc
    refine a_iload_n C d_init_392 rfl rfl ?_
    refine a_iload C d_init_393 rfl ?_
    refine a_isub C d_init_395 ?_
    refine a_bipush (v := 8) C d_init_396 (by decide) ?_
    refine a_icmp_ge (tgt := 420) C d_init_398 (by decide) ⟨fun hc => ?_, fun hc => ?_⟩
    · have hp := hp.1 hc
      refine aw_lo (lo' := [some (.ref o), some (.int x1), some (.int x2), some (.int x3), none]) ⟨.inr rfl, .inr rfl, .inr rfl, .inr rfl, .inl rfl, trivial⟩ ?_
      exact s_init_420 C hQ hA hR x1 x2 x3 S R356 hR356 R364 hR364 hp
    · have hp := hp.2 hc
      refine a_aload_n C d_init_401 rfl rfl ?_
      refine a_getR C 0 22 d_init_402 rfl rfl rfl (Nat.le_of_ble_eq_true rfl) f_M_72 ⟨Nat.le_of_ble_eq_true rfl, Nat.le_of_ble_eq_true rfl⟩ ?_
      refine a_iload_n C d_init_405 rfl rfl ?_
      refine a_bipush (v := 8) C d_init_406 (by decide) ?_
      refine a_iload C d_init_408 rfl ?_
      refine a_imul C d_init_410 ?_
      refine a_iload_n C d_init_411 rfl rfl ?_
      refine a_iadd C d_init_412 ?_
      refine a_iload C d_init_413 rfl ?_
      refine a_isub C d_init_415 ?_
      refine a_iast C 0 22 d_init_416 rfl rfl rfl hp.1 ?_
      have hp := hp.2
      refine aw_eq (lo' := _) (st' := _) (L' := [(0, ly_M, (o, ad, S.1, va_up S.2.1 22 (upd (S.2.1 22) x1.toNatClampNeg (((8 * s0) + x2) - s0)), S.2.2))]) rfl rfl rfl ?_
      refine a_iinc (v := x1 + 1) (lo' := [some (.ref o), some (.int (x1 + 1)), some (.int x2), some (.int x3), some (.int s0)]) C d_init_417 rfl rfl (by decide) rfl ?_
      refine aw_lo (lo' := [some (.ref o), some (.int (x1 + 1)), some (.int x2), some (.int x3), none]) ⟨.inr rfl, .inr rfl, .inr rfl, .inr rfl, .inl rfl, trivial⟩ ?_
      exact s_init_420 C hQ hA hR (x1 + 1) x2 x3 (S.1, va_up S.2.1 22 (upd (S.2.1 22) x1.toNatClampNeg (((8 * s0) + x2) - s0)), S.2.2) R356 hR356 R364 hR364 hp
set_option maxRecDepth 100000 in
set_option maxHeartbeats 1000000 in
theorem s_init_364 (C : fcx gG D z A X R_M c_M_init 5 (none)) (hQ : X.2.2.2.2.2.2.2.2.2.2 = eQ gG D z X.2.2.2.2.2.2.2.1 X.2.2.2.2.1 L0 38 193881 (pM_n K o)) (hA : A = owA gG L0 X.2.2.2.2.1.heap.size) (hR : X.2.2.2.1 = { frames := 2, cells := 39, slots := 193887, locals := 200 }) (x1 : Int32) (x2 : Int32) (x3 : Int32) (S : ms) (R356 : Int32 → Int32 → ms → Prop) (hR356 : ∀ yx1 yx2 yS, R356 yx1 yx2 yS → aw gG D z A X 5 356 [some (.ref o), some (.int yx1), some (.int yx2), none, none] [] [(0, ly_M, (o, ad, yS.1, yS.2.1, yS.2.2))] 38 193881) (R364 : Int32 → Int32 → Int32 → ms → Prop) (hR364 : ∀ yx1 yx2 yx3 yS, R364 yx1 yx2 yx3 yS → aw gG D z A X 5 364 [some (.ref o), some (.int yx1), some (.int yx2), some (.int yx3), none] [] [(0, ly_M, (o, ad, yS.1, yS.2.1, yS.2.2))] 38 193881) (hp : b_init_364 x1 x2 x3 S R356 R364 K) : aw gG D z A X 5 364 [some (.ref o), some (.int x1), some (.int x2), some (.int x3), none] [] [(0, ly_M, (o, ad, S.1, S.2.1, S.2.2))] 38 193881 := by
  unfold b_init_364 at hp
  refine a_iload_n C d_init_364 rfl rfl ?_
  refine a_iload_n C d_init_365 rfl rfl ?_
  refine a_icmp_gt (tgt := 426) C d_init_366 (by decide) ⟨fun hc => ?_, fun hc => ?_⟩
  · have hp := hp.1 hc
    refine a_iinc (v := x2 + 1) (lo' := [some (.ref o), some (.int x1), some (.int (x2 + 1)), some (.int x3), none]) C d_init_426 rfl rfl (by decide) rfl ?_
    refine a_goto (tgt := 356) C d_init_429 (by decide) ?_
    refine aw_lo (lo' := [some (.ref o), some (.int x1), some (.int (x2 + 1)), none, none]) ⟨.inr rfl, .inr rfl, .inr rfl, .inl rfl, .inr rfl, trivial⟩ ?_
    exact hR356 x1 (x2 + 1) S hp
  · have hp := hp.2 hc
    refine a_iload_n C d_init_369 rfl rfl ?_
    refine a_iconst (v := 2) C d_init_370 (by decide) ?_
    refine a_irem C d_init_371 (by decide) ?_
    refine a_iconst (v := 1) C d_init_372 (by decide) ?_
    refine a_icmp_ne (tgt := 380) C d_init_373 (by decide) ⟨fun hc => ?_, fun hc => ?_⟩
    · have hp := hp.1 hc
      refine a_iload_n C d_init_380 rfl rfl ?_
      refine a_iload_n C d_init_381 rfl rfl ?_
      refine a_isub C d_init_382 ?_
      refine aw_lo (lo' := [some (.ref o), some (.int x1), some (.int x2), some (.int x3), none]) ⟨.inr rfl, .inr rfl, .inr rfl, .inr rfl, .inr rfl, trivial⟩ ?_
      exact s_init_383 C hQ hA hR x1 x2 x3 (x2 - x3) S R356 hR356 R364 hR364 hp
    · have hp := hp.2 hc
      refine a_iload_n C d_init_376 rfl rfl ?_
      refine a_goto (tgt := 383) C d_init_377 (by decide) ?_
      refine aw_lo (lo' := [some (.ref o), some (.int x1), some (.int x2), some (.int x3), none]) ⟨.inr rfl, .inr rfl, .inr rfl, .inr rfl, .inr rfl, trivial⟩ ?_
      exact s_init_383 C hQ hA hR x1 x2 x3 x3 S R356 hR356 R364 hR364 hp
set_option maxRecDepth 100000 in
set_option maxHeartbeats 1000000 in
theorem se_init_364 (C : fcx gG D z A X R_M c_M_init 5 (none)) (hQ : X.2.2.2.2.2.2.2.2.2.2 = eQ gG D z X.2.2.2.2.2.2.2.1 X.2.2.2.2.1 L0 38 193881 (pM_n K o)) (hA : A = owA gG L0 X.2.2.2.2.1.heap.size) (hR : X.2.2.2.1 = { frames := 2, cells := 39, slots := 193887, locals := 200 }) (x1 : Int32) (x2 : Int32) (x3 : Int32) (S : ms) (R356 : Int32 → Int32 → ms → Prop) (hR356 : ∀ yx1 yx2 yS, R356 yx1 yx2 yS → aw gG D z A X 5 356 [some (.ref o), some (.int yx1), some (.int yx2), none, none] [] [(0, ly_M, (o, ad, yS.1, yS.2.1, yS.2.2))] 38 193881) (hp : e_init_364 x1 x2 x3 S R356 K) : aw gG D z A X 5 364 [some (.ref o), some (.int x1), some (.int x2), some (.int x3), none] [] [(0, ly_M, (o, ad, S.1, S.2.1, S.2.2))] 38 193881 := by
  obtain ⟨I, μ, h0, hs⟩ := hp
  have key : ∀ (n : Nat) (yx1 : Int32) (yx2 : Int32) (yx3 : Int32) (yS : ms), μ yx1 yx2 yx3 yS < n → I yx1 yx2 yx3 yS → aw gG D z A X 5 364 [some (.ref o), some (.int yx1), some (.int yx2), some (.int yx3), none] [] [(0, ly_M, (o, ad, yS.1, yS.2.1, yS.2.2))] 38 193881 := by
    intro n
    induction n with
    | zero => intro yx1 yx2 yx3 yS h; omega
    | succ n ih =>
      intro yx1 yx2 yx3 yS hn hI
      exact s_init_364 C hQ hA hR yx1 yx2 yx3 yS R356 hR356 _ (fun zx1 zx2 zx3 zS hw => ih zx1 zx2 zx3 zS (by omega) hw.1) (hs yx1 yx2 yx3 yS hI)
  exact key (μ x1 x2 x3 S + 1) x1 x2 x3 S (Nat.lt_succ_self _) h0
set_option maxRecDepth 100000 in
set_option maxHeartbeats 1000000 in
theorem s_init_356 (C : fcx gG D z A X R_M c_M_init 5 (none)) (hQ : X.2.2.2.2.2.2.2.2.2.2 = eQ gG D z X.2.2.2.2.2.2.2.1 X.2.2.2.2.1 L0 38 193881 (pM_n K o)) (hA : A = owA gG L0 X.2.2.2.2.1.heap.size) (hR : X.2.2.2.1 = { frames := 2, cells := 39, slots := 193887, locals := 200 }) (x1 : Int32) (x2 : Int32) (S : ms) (R356 : Int32 → Int32 → ms → Prop) (hR356 : ∀ yx1 yx2 yS, R356 yx1 yx2 yS → aw gG D z A X 5 356 [some (.ref o), some (.int yx1), some (.int yx2), none, none] [] [(0, ly_M, (o, ad, yS.1, yS.2.1, yS.2.2))] 38 193881) (hp : b_init_356 x1 x2 S R356 K) : aw gG D z A X 5 356 [some (.ref o), some (.int x1), some (.int x2), none, none] [] [(0, ly_M, (o, ad, S.1, S.2.1, S.2.2))] 38 193881 := by
  unfold b_init_356 at hp
  refine a_iload_n C d_init_356 rfl rfl ?_
  refine a_bipush (v := 15) C d_init_357 (by decide) ?_
  refine a_icmp_ge (tgt := 432) C d_init_359 (by decide) ⟨fun hc => ?_, fun hc => ?_⟩
  · have hp := hp.1 hc
    refine a_iconst (v := 0) C d_init_432 (by decide) ?_
    refine a_istore_n (lo' := [some (.ref o), some (.int x1), some (.int 0), none, none]) C d_init_433 rfl (by decide) rfl ?_
    refine aw_lo (lo' := [some (.ref o), none, some (.int 0), none, none]) ⟨.inr rfl, .inl rfl, .inr rfl, .inr rfl, .inr rfl, trivial⟩ ?_
    exact se_init_434 C hQ hA hR 0 S  hp
  · have hp := hp.2 hc
    refine a_iconst (v := 0) C d_init_362 (by decide) ?_
    refine a_istore_n (lo' := [some (.ref o), some (.int x1), some (.int x2), some (.int 0), none]) C d_init_363 rfl (by decide) rfl ?_
    refine aw_lo (lo' := [some (.ref o), some (.int x1), some (.int x2), some (.int 0), none]) ⟨.inr rfl, .inr rfl, .inr rfl, .inr rfl, .inr rfl, trivial⟩ ?_
    exact se_init_364 C hQ hA hR x1 x2 0 S R356 hR356 hp
set_option maxRecDepth 100000 in
set_option maxHeartbeats 1000000 in
theorem se_init_356 (C : fcx gG D z A X R_M c_M_init 5 (none)) (hQ : X.2.2.2.2.2.2.2.2.2.2 = eQ gG D z X.2.2.2.2.2.2.2.1 X.2.2.2.2.1 L0 38 193881 (pM_n K o)) (hA : A = owA gG L0 X.2.2.2.2.1.heap.size) (hR : X.2.2.2.1 = { frames := 2, cells := 39, slots := 193887, locals := 200 }) (x1 : Int32) (x2 : Int32) (S : ms) (hp : e_init_356 x1 x2 S K) : aw gG D z A X 5 356 [some (.ref o), some (.int x1), some (.int x2), none, none] [] [(0, ly_M, (o, ad, S.1, S.2.1, S.2.2))] 38 193881 := by
  obtain ⟨I, μ, h0, hs⟩ := hp
  have key : ∀ (n : Nat) (yx1 : Int32) (yx2 : Int32) (yS : ms), μ yx1 yx2 yS < n → I yx1 yx2 yS → aw gG D z A X 5 356 [some (.ref o), some (.int yx1), some (.int yx2), none, none] [] [(0, ly_M, (o, ad, yS.1, yS.2.1, yS.2.2))] 38 193881 := by
    intro n
    induction n with
    | zero => intro yx1 yx2 yS h; omega
    | succ n ih =>
      intro yx1 yx2 yS hn hI
      exact s_init_356 C hQ hA hR yx1 yx2 yS _ (fun zx1 zx2 zS hw => ih zx1 zx2 zS (by omega) hw.1) (hs yx1 yx2 yS hI)
  exact key (μ x1 x2 S + 1) x1 x2 S (Nat.lt_succ_self _) h0
set_option maxRecDepth 100000 in
set_option maxHeartbeats 1000000 in
theorem s_init_332 (C : fcx gG D z A X R_M c_M_init 5 (none)) (hQ : X.2.2.2.2.2.2.2.2.2.2 = eQ gG D z X.2.2.2.2.2.2.2.1 X.2.2.2.2.1 L0 38 193881 (pM_n K o)) (hA : A = owA gG L0 X.2.2.2.2.1.heap.size) (hR : X.2.2.2.1 = { frames := 2, cells := 39, slots := 193887, locals := 200 }) (x1 : Int32) (S : ms) (R332 : Int32 → ms → Prop) (hR332 : ∀ yx1 yS, R332 yx1 yS → aw gG D z A X 5 332 [some (.ref o), some (.int yx1), none, none, none] [] [(0, ly_M, (o, ad, yS.1, yS.2.1, yS.2.2))] 38 193881) (hp : b_init_332 x1 S R332 K) : aw gG D z A X 5 332 [some (.ref o), some (.int x1), none, none, none] [] [(0, ly_M, (o, ad, S.1, S.2.1, S.2.2))] 38 193881 := by
  unfold b_init_332 at hp
  refine a_iload_n C d_init_332 rfl rfl ?_
  refine a_sipush (v := 128) C d_init_333 (by decide) ?_
  refine a_icmp_ge (tgt := 352) C d_init_336 (by decide) ⟨fun hc => ?_, fun hc => ?_⟩
  · have hp := hp.1 hc
    refine a_iconst (v := 0) C d_init_352 (by decide) ?_
    refine a_istore_n (lo' := [some (.ref o), some (.int 0), none, none, none]) C d_init_353 rfl (by decide) rfl ?_
    refine a_iconst (v := 0) C d_init_354 (by decide) ?_
    refine a_istore_n (lo' := [some (.ref o), some (.int 0), some (.int 0), none, none]) C d_init_355 rfl (by decide) rfl ?_
    refine aw_lo (lo' := [some (.ref o), some (.int 0), some (.int 0), none, none]) ⟨.inr rfl, .inr rfl, .inr rfl, .inr rfl, .inr rfl, trivial⟩ ?_
    exact se_init_356 C hQ hA hR 0 0 S  hp
  · have hp := hp.2 hc
    refine a_aload_n C d_init_339 rfl rfl ?_
    refine a_getR C 0 5 d_init_340 rfl rfl rfl (Nat.le_of_ble_eq_true rfl) f_M_23 ⟨Nat.le_of_ble_eq_true rfl, Nat.le_of_ble_eq_true rfl⟩ ?_
    refine a_iload_n C d_init_343 rfl rfl ?_
    refine a_iconst (v := 1) C d_init_344 (by decide) ?_
    refine a_iast C 0 5 d_init_345 rfl rfl rfl hp.1 ?_
    have hp := hp.2
    refine aw_eq (lo' := _) (st' := _) (L' := [(0, ly_M, (o, ad, S.1, va_up S.2.1 5 (upd (S.2.1 5) x1.toNatClampNeg 1), S.2.2))]) rfl rfl rfl ?_
    refine a_iinc (v := x1 + 1) (lo' := [some (.ref o), some (.int (x1 + 1)), none, none, none]) C d_init_346 rfl rfl (by decide) rfl ?_
    refine a_goto (tgt := 332) C d_init_349 (by decide) ?_
    refine aw_lo (lo' := [some (.ref o), some (.int (x1 + 1)), none, none, none]) ⟨.inr rfl, .inr rfl, .inr rfl, .inr rfl, .inr rfl, trivial⟩ ?_
    exact hR332 (x1 + 1) (S.1, va_up S.2.1 5 (upd (S.2.1 5) x1.toNatClampNeg 1), S.2.2) hp
set_option maxRecDepth 100000 in
set_option maxHeartbeats 1000000 in
theorem se_init_332 (C : fcx gG D z A X R_M c_M_init 5 (none)) (hQ : X.2.2.2.2.2.2.2.2.2.2 = eQ gG D z X.2.2.2.2.2.2.2.1 X.2.2.2.2.1 L0 38 193881 (pM_n K o)) (hA : A = owA gG L0 X.2.2.2.2.1.heap.size) (hR : X.2.2.2.1 = { frames := 2, cells := 39, slots := 193887, locals := 200 }) (x1 : Int32) (S : ms) (hp : e_init_332 x1 S K) : aw gG D z A X 5 332 [some (.ref o), some (.int x1), none, none, none] [] [(0, ly_M, (o, ad, S.1, S.2.1, S.2.2))] 38 193881 := by
  obtain ⟨I, μ, h0, hs⟩ := hp
  have key : ∀ (n : Nat) (yx1 : Int32) (yS : ms), μ yx1 yS < n → I yx1 yS → aw gG D z A X 5 332 [some (.ref o), some (.int yx1), none, none, none] [] [(0, ly_M, (o, ad, yS.1, yS.2.1, yS.2.2))] 38 193881 := by
    intro n
    induction n with
    | zero => intro yx1 yS h; omega
    | succ n ih =>
      intro yx1 yS hn hI
      exact s_init_332 C hQ hA hR yx1 yS _ (fun zx1 zS hw => ih zx1 zS (by omega) hw.1) (hs yx1 yS hI)
  exact key (μ x1 S + 1) x1 S (Nat.lt_succ_self _) h0
set_option maxRecDepth 100000 in
set_option maxHeartbeats 1000000 in
theorem s_init_330 (C : fcx gG D z A X R_M c_M_init 5 (none)) (hQ : X.2.2.2.2.2.2.2.2.2.2 = eQ gG D z X.2.2.2.2.2.2.2.1 X.2.2.2.2.1 L0 38 193881 (pM_n K o)) (hA : A = owA gG L0 X.2.2.2.2.1.heap.size) (hR : X.2.2.2.1 = { frames := 2, cells := 39, slots := 193887, locals := 200 })  (S : ms) (hp : p_init  S K) : aw gG D z A X 5 330 [some (.ref o), none, none, none, none] [] [(0, ly_M, (o, ad, S.1, S.2.1, S.2.2))] 38 193881 := by
  unfold p_init at hp
  refine a_iconst (v := 0) C d_init_330 (by decide) ?_
  refine a_istore_n (lo' := [some (.ref o), some (.int 0), none, none, none]) C d_init_331 rfl (by decide) rfl ?_
  refine aw_lo (lo' := [some (.ref o), some (.int 0), none, none, none]) ⟨.inr rfl, .inr rfl, .inr rfl, .inr rfl, .inr rfl, trivial⟩ ?_
  exact se_init_332 C hQ hA hR 0 S  hp
end M_init
def ly_M_0 : fl := [(0, 0), (0, 0), (0, 0), (0, 0), (6, 0), (6, 0), (6, 0), (0, 0), (6, 0), (0, 0), (0, 0), (6, 0), (6, 0), (6, 0), (6, 0), (6, 0), (6, 0), (6, 0), (6, 0), (6, 0), (6, 0), (6, 0), (6, 0), (6, 0), (6, 0), (6, 0), (6, 0), (6, 0), (6, 0), (6, 0), (6, 0), (6, 0), (0, 0), (0, 0), (0, 0), (0, 0), (0, 0), (0, 0), (6, 0), (6, 0), (6, 0), (6, 0), (6, 0), (1, 0), (6, 0), (6, 0), (6, 0), (6, 0), (0, 0), (0, 0), (6, 0), (6, 0), (6, 0), (6, 0), (0, 0), (0, 0), (0, 0), (0, 0)]
def ly_M_1 : fl := [(0, 0), (0, 0), (0, 0), (0, 0), (2, 12288), (6, 0), (6, 0), (0, 0), (6, 0), (0, 0), (0, 0), (6, 0), (6, 0), (6, 0), (6, 0), (6, 0), (6, 0), (6, 0), (6, 0), (6, 0), (6, 0), (6, 0), (6, 0), (6, 0), (6, 0), (6, 0), (6, 0), (6, 0), (6, 0), (6, 0), (6, 0), (6, 0), (0, 0), (0, 0), (0, 0), (0, 0), (0, 0), (0, 0), (6, 0), (6, 0), (6, 0), (6, 0), (6, 0), (1, 0), (6, 0), (6, 0), (6, 0), (6, 0), (0, 0), (0, 0), (6, 0), (6, 0), (6, 0), (6, 0), (0, 0), (0, 0), (0, 0), (0, 0)]
def ly_M_2 : fl := [(0, 0), (0, 0), (0, 0), (0, 0), (2, 12288), (2, 128), (6, 0), (0, 0), (6, 0), (0, 0), (0, 0), (6, 0), (6, 0), (6, 0), (6, 0), (6, 0), (6, 0), (6, 0), (6, 0), (6, 0), (6, 0), (6, 0), (6, 0), (6, 0), (6, 0), (6, 0), (6, 0), (6, 0), (6, 0), (6, 0), (6, 0), (6, 0), (0, 0), (0, 0), (0, 0), (0, 0), (0, 0), (0, 0), (6, 0), (6, 0), (6, 0), (6, 0), (6, 0), (1, 0), (6, 0), (6, 0), (6, 0), (6, 0), (0, 0), (0, 0), (6, 0), (6, 0), (6, 0), (6, 0), (0, 0), (0, 0), (0, 0), (0, 0)]
def ly_M_3 : fl := [(0, 0), (0, 0), (0, 0), (0, 0), (2, 12288), (2, 128), (2, 32768), (0, 0), (6, 0), (0, 0), (0, 0), (6, 0), (6, 0), (6, 0), (6, 0), (6, 0), (6, 0), (6, 0), (6, 0), (6, 0), (6, 0), (6, 0), (6, 0), (6, 0), (6, 0), (6, 0), (6, 0), (6, 0), (6, 0), (6, 0), (6, 0), (6, 0), (0, 0), (0, 0), (0, 0), (0, 0), (0, 0), (0, 0), (6, 0), (6, 0), (6, 0), (6, 0), (6, 0), (1, 0), (6, 0), (6, 0), (6, 0), (6, 0), (0, 0), (0, 0), (6, 0), (6, 0), (6, 0), (6, 0), (0, 0), (0, 0), (0, 0), (0, 0)]
def ly_M_4 : fl := [(0, 0), (0, 0), (0, 0), (0, 0), (2, 12288), (2, 128), (2, 32768), (0, 0), (2, 65536), (0, 0), (0, 0), (6, 0), (6, 0), (6, 0), (6, 0), (6, 0), (6, 0), (6, 0), (6, 0), (6, 0), (6, 0), (6, 0), (6, 0), (6, 0), (6, 0), (6, 0), (6, 0), (6, 0), (6, 0), (6, 0), (6, 0), (6, 0), (0, 0), (0, 0), (0, 0), (0, 0), (0, 0), (0, 0), (6, 0), (6, 0), (6, 0), (6, 0), (6, 0), (1, 0), (6, 0), (6, 0), (6, 0), (6, 0), (0, 0), (0, 0), (6, 0), (6, 0), (6, 0), (6, 0), (0, 0), (0, 0), (0, 0), (0, 0)]
def ly_M_5 : fl := [(0, 0), (0, 0), (0, 0), (0, 0), (2, 12288), (2, 128), (2, 32768), (0, 0), (2, 65536), (0, 0), (0, 0), (3, 3), (6, 0), (6, 0), (6, 0), (6, 0), (6, 0), (6, 0), (6, 0), (6, 0), (6, 0), (6, 0), (6, 0), (6, 0), (6, 0), (6, 0), (6, 0), (6, 0), (6, 0), (6, 0), (6, 0), (6, 0), (0, 0), (0, 0), (0, 0), (0, 0), (0, 0), (0, 0), (6, 0), (6, 0), (6, 0), (6, 0), (6, 0), (1, 0), (6, 0), (6, 0), (6, 0), (6, 0), (0, 0), (0, 0), (6, 0), (6, 0), (6, 0), (6, 0), (0, 0), (0, 0), (0, 0), (0, 0)]
def ly_M_6 : fl := [(0, 0), (0, 0), (0, 0), (0, 0), (2, 12288), (2, 128), (2, 32768), (0, 0), (2, 65536), (0, 0), (0, 0), (3, 3), (2, 3), (6, 0), (6, 0), (6, 0), (6, 0), (6, 0), (6, 0), (6, 0), (6, 0), (6, 0), (6, 0), (6, 0), (6, 0), (6, 0), (6, 0), (6, 0), (6, 0), (6, 0), (6, 0), (6, 0), (0, 0), (0, 0), (0, 0), (0, 0), (0, 0), (0, 0), (6, 0), (6, 0), (6, 0), (6, 0), (6, 0), (1, 0), (6, 0), (6, 0), (6, 0), (6, 0), (0, 0), (0, 0), (6, 0), (6, 0), (6, 0), (6, 0), (0, 0), (0, 0), (0, 0), (0, 0)]
def ly_M_7 : fl := [(0, 0), (0, 0), (0, 0), (0, 0), (2, 12288), (2, 128), (2, 32768), (0, 0), (2, 65536), (0, 0), (0, 0), (3, 3), (2, 3), (2, 3), (6, 0), (6, 0), (6, 0), (6, 0), (6, 0), (6, 0), (6, 0), (6, 0), (6, 0), (6, 0), (6, 0), (6, 0), (6, 0), (6, 0), (6, 0), (6, 0), (6, 0), (6, 0), (0, 0), (0, 0), (0, 0), (0, 0), (0, 0), (0, 0), (6, 0), (6, 0), (6, 0), (6, 0), (6, 0), (1, 0), (6, 0), (6, 0), (6, 0), (6, 0), (0, 0), (0, 0), (6, 0), (6, 0), (6, 0), (6, 0), (0, 0), (0, 0), (0, 0), (0, 0)]
def ly_M_8 : fl := [(0, 0), (0, 0), (0, 0), (0, 0), (2, 12288), (2, 128), (2, 32768), (0, 0), (2, 65536), (0, 0), (0, 0), (3, 3), (2, 3), (2, 3), (2, 3), (6, 0), (6, 0), (6, 0), (6, 0), (6, 0), (6, 0), (6, 0), (6, 0), (6, 0), (6, 0), (6, 0), (6, 0), (6, 0), (6, 0), (6, 0), (6, 0), (6, 0), (0, 0), (0, 0), (0, 0), (0, 0), (0, 0), (0, 0), (6, 0), (6, 0), (6, 0), (6, 0), (6, 0), (1, 0), (6, 0), (6, 0), (6, 0), (6, 0), (0, 0), (0, 0), (6, 0), (6, 0), (6, 0), (6, 0), (0, 0), (0, 0), (0, 0), (0, 0)]
def ly_M_9 : fl := [(0, 0), (0, 0), (0, 0), (0, 0), (2, 12288), (2, 128), (2, 32768), (0, 0), (2, 65536), (0, 0), (0, 0), (3, 3), (2, 3), (2, 3), (2, 3), (2, 9), (6, 0), (6, 0), (6, 0), (6, 0), (6, 0), (6, 0), (6, 0), (6, 0), (6, 0), (6, 0), (6, 0), (6, 0), (6, 0), (6, 0), (6, 0), (6, 0), (0, 0), (0, 0), (0, 0), (0, 0), (0, 0), (0, 0), (6, 0), (6, 0), (6, 0), (6, 0), (6, 0), (1, 0), (6, 0), (6, 0), (6, 0), (6, 0), (0, 0), (0, 0), (6, 0), (6, 0), (6, 0), (6, 0), (0, 0), (0, 0), (0, 0), (0, 0)]
def ly_M_10 : fl := [(0, 0), (0, 0), (0, 0), (0, 0), (2, 12288), (2, 128), (2, 32768), (0, 0), (2, 65536), (0, 0), (0, 0), (3, 3), (2, 3), (2, 3), (2, 3), (2, 9), (2, 9), (6, 0), (6, 0), (6, 0), (6, 0), (6, 0), (6, 0), (6, 0), (6, 0), (6, 0), (6, 0), (6, 0), (6, 0), (6, 0), (6, 0), (6, 0), (0, 0), (0, 0), (0, 0), (0, 0), (0, 0), (0, 0), (6, 0), (6, 0), (6, 0), (6, 0), (6, 0), (1, 0), (6, 0), (6, 0), (6, 0), (6, 0), (0, 0), (0, 0), (6, 0), (6, 0), (6, 0), (6, 0), (0, 0), (0, 0), (0, 0), (0, 0)]
def ly_M_11 : fl := [(0, 0), (0, 0), (0, 0), (0, 0), (2, 12288), (2, 128), (2, 32768), (0, 0), (2, 65536), (0, 0), (0, 0), (3, 3), (2, 3), (2, 3), (2, 3), (2, 9), (2, 9), (2, 9), (6, 0), (6, 0), (6, 0), (6, 0), (6, 0), (6, 0), (6, 0), (6, 0), (6, 0), (6, 0), (6, 0), (6, 0), (6, 0), (6, 0), (0, 0), (0, 0), (0, 0), (0, 0), (0, 0), (0, 0), (6, 0), (6, 0), (6, 0), (6, 0), (6, 0), (1, 0), (6, 0), (6, 0), (6, 0), (6, 0), (0, 0), (0, 0), (6, 0), (6, 0), (6, 0), (6, 0), (0, 0), (0, 0), (0, 0), (0, 0)]
def ly_M_12 : fl := [(0, 0), (0, 0), (0, 0), (0, 0), (2, 12288), (2, 128), (2, 32768), (0, 0), (2, 65536), (0, 0), (0, 0), (3, 3), (2, 3), (2, 3), (2, 3), (2, 9), (2, 9), (2, 9), (2, 9), (6, 0), (6, 0), (6, 0), (6, 0), (6, 0), (6, 0), (6, 0), (6, 0), (6, 0), (6, 0), (6, 0), (6, 0), (6, 0), (0, 0), (0, 0), (0, 0), (0, 0), (0, 0), (0, 0), (6, 0), (6, 0), (6, 0), (6, 0), (6, 0), (1, 0), (6, 0), (6, 0), (6, 0), (6, 0), (0, 0), (0, 0), (6, 0), (6, 0), (6, 0), (6, 0), (0, 0), (0, 0), (0, 0), (0, 0)]
def ly_M_13 : fl := [(0, 0), (0, 0), (0, 0), (0, 0), (2, 12288), (2, 128), (2, 32768), (0, 0), (2, 65536), (0, 0), (0, 0), (3, 3), (2, 3), (2, 3), (2, 3), (2, 9), (2, 9), (2, 9), (2, 9), (2, 36864), (6, 0), (6, 0), (6, 0), (6, 0), (6, 0), (6, 0), (6, 0), (6, 0), (6, 0), (6, 0), (6, 0), (6, 0), (0, 0), (0, 0), (0, 0), (0, 0), (0, 0), (0, 0), (6, 0), (6, 0), (6, 0), (6, 0), (6, 0), (1, 0), (6, 0), (6, 0), (6, 0), (6, 0), (0, 0), (0, 0), (6, 0), (6, 0), (6, 0), (6, 0), (0, 0), (0, 0), (0, 0), (0, 0)]
def ly_M_14 : fl := [(0, 0), (0, 0), (0, 0), (0, 0), (2, 12288), (2, 128), (2, 32768), (0, 0), (2, 65536), (0, 0), (0, 0), (3, 3), (2, 3), (2, 3), (2, 3), (2, 9), (2, 9), (2, 9), (2, 9), (2, 36864), (2, 12288), (6, 0), (6, 0), (6, 0), (6, 0), (6, 0), (6, 0), (6, 0), (6, 0), (6, 0), (6, 0), (6, 0), (0, 0), (0, 0), (0, 0), (0, 0), (0, 0), (0, 0), (6, 0), (6, 0), (6, 0), (6, 0), (6, 0), (1, 0), (6, 0), (6, 0), (6, 0), (6, 0), (0, 0), (0, 0), (6, 0), (6, 0), (6, 0), (6, 0), (0, 0), (0, 0), (0, 0), (0, 0)]
def ly_M_15 : fl := [(0, 0), (0, 0), (0, 0), (0, 0), (2, 12288), (2, 128), (2, 32768), (0, 0), (2, 65536), (0, 0), (0, 0), (3, 3), (2, 3), (2, 3), (2, 3), (2, 9), (2, 9), (2, 9), (2, 9), (2, 36864), (2, 12288), (2, 4096), (6, 0), (6, 0), (6, 0), (6, 0), (6, 0), (6, 0), (6, 0), (6, 0), (6, 0), (6, 0), (0, 0), (0, 0), (0, 0), (0, 0), (0, 0), (0, 0), (6, 0), (6, 0), (6, 0), (6, 0), (6, 0), (1, 0), (6, 0), (6, 0), (6, 0), (6, 0), (0, 0), (0, 0), (6, 0), (6, 0), (6, 0), (6, 0), (0, 0), (0, 0), (0, 0), (0, 0)]
def ly_M_16 : fl := [(0, 0), (0, 0), (0, 0), (0, 0), (2, 12288), (2, 128), (2, 32768), (0, 0), (2, 65536), (0, 0), (0, 0), (3, 3), (2, 3), (2, 3), (2, 3), (2, 9), (2, 9), (2, 9), (2, 9), (2, 36864), (2, 12288), (2, 4096), (2, 64), (6, 0), (6, 0), (6, 0), (6, 0), (6, 0), (6, 0), (6, 0), (6, 0), (6, 0), (0, 0), (0, 0), (0, 0), (0, 0), (0, 0), (0, 0), (6, 0), (6, 0), (6, 0), (6, 0), (6, 0), (1, 0), (6, 0), (6, 0), (6, 0), (6, 0), (0, 0), (0, 0), (6, 0), (6, 0), (6, 0), (6, 0), (0, 0), (0, 0), (0, 0), (0, 0)]
def ly_M_17 : fl := [(0, 0), (0, 0), (0, 0), (0, 0), (2, 12288), (2, 128), (2, 32768), (0, 0), (2, 65536), (0, 0), (0, 0), (3, 3), (2, 3), (2, 3), (2, 3), (2, 9), (2, 9), (2, 9), (2, 9), (2, 36864), (2, 12288), (2, 4096), (2, 64), (2, 64), (6, 0), (6, 0), (6, 0), (6, 0), (6, 0), (6, 0), (6, 0), (6, 0), (0, 0), (0, 0), (0, 0), (0, 0), (0, 0), (0, 0), (6, 0), (6, 0), (6, 0), (6, 0), (6, 0), (1, 0), (6, 0), (6, 0), (6, 0), (6, 0), (0, 0), (0, 0), (6, 0), (6, 0), (6, 0), (6, 0), (0, 0), (0, 0), (0, 0), (0, 0)]
def ly_M_18 : fl := [(0, 0), (0, 0), (0, 0), (0, 0), (2, 12288), (2, 128), (2, 32768), (0, 0), (2, 65536), (0, 0), (0, 0), (3, 3), (2, 3), (2, 3), (2, 3), (2, 9), (2, 9), (2, 9), (2, 9), (2, 36864), (2, 12288), (2, 4096), (2, 64), (2, 64), (4, 64), (6, 0), (6, 0), (6, 0), (6, 0), (6, 0), (6, 0), (6, 0), (0, 0), (0, 0), (0, 0), (0, 0), (0, 0), (0, 0), (6, 0), (6, 0), (6, 0), (6, 0), (6, 0), (1, 0), (6, 0), (6, 0), (6, 0), (6, 0), (0, 0), (0, 0), (6, 0), (6, 0), (6, 0), (6, 0), (0, 0), (0, 0), (0, 0), (0, 0)]
def ly_M_19 : fl := [(0, 0), (0, 0), (0, 0), (0, 0), (2, 12288), (2, 128), (2, 32768), (0, 0), (2, 65536), (0, 0), (0, 0), (3, 3), (2, 3), (2, 3), (2, 3), (2, 9), (2, 9), (2, 9), (2, 9), (2, 36864), (2, 12288), (2, 4096), (2, 64), (2, 64), (4, 64), (2, 64), (6, 0), (6, 0), (6, 0), (6, 0), (6, 0), (6, 0), (0, 0), (0, 0), (0, 0), (0, 0), (0, 0), (0, 0), (6, 0), (6, 0), (6, 0), (6, 0), (6, 0), (1, 0), (6, 0), (6, 0), (6, 0), (6, 0), (0, 0), (0, 0), (6, 0), (6, 0), (6, 0), (6, 0), (0, 0), (0, 0), (0, 0), (0, 0)]
def ly_M_20 : fl := [(0, 0), (0, 0), (0, 0), (0, 0), (2, 12288), (2, 128), (2, 32768), (0, 0), (2, 65536), (0, 0), (0, 0), (3, 3), (2, 3), (2, 3), (2, 3), (2, 9), (2, 9), (2, 9), (2, 9), (2, 36864), (2, 12288), (2, 4096), (2, 64), (2, 64), (4, 64), (2, 64), (2, 1028), (6, 0), (6, 0), (6, 0), (6, 0), (6, 0), (0, 0), (0, 0), (0, 0), (0, 0), (0, 0), (0, 0), (6, 0), (6, 0), (6, 0), (6, 0), (6, 0), (1, 0), (6, 0), (6, 0), (6, 0), (6, 0), (0, 0), (0, 0), (6, 0), (6, 0), (6, 0), (6, 0), (0, 0), (0, 0), (0, 0), (0, 0)]
def ly_M_21 : fl := [(0, 0), (0, 0), (0, 0), (0, 0), (2, 12288), (2, 128), (2, 32768), (0, 0), (2, 65536), (0, 0), (0, 0), (3, 3), (2, 3), (2, 3), (2, 3), (2, 9), (2, 9), (2, 9), (2, 9), (2, 36864), (2, 12288), (2, 4096), (2, 64), (2, 64), (4, 64), (2, 64), (2, 1028), (2, 1028), (6, 0), (6, 0), (6, 0), (6, 0), (0, 0), (0, 0), (0, 0), (0, 0), (0, 0), (0, 0), (6, 0), (6, 0), (6, 0), (6, 0), (6, 0), (1, 0), (6, 0), (6, 0), (6, 0), (6, 0), (0, 0), (0, 0), (6, 0), (6, 0), (6, 0), (6, 0), (0, 0), (0, 0), (0, 0), (0, 0)]
def ly_M_22 : fl := [(0, 0), (0, 0), (0, 0), (0, 0), (2, 12288), (2, 128), (2, 32768), (0, 0), (2, 65536), (0, 0), (0, 0), (3, 3), (2, 3), (2, 3), (2, 3), (2, 9), (2, 9), (2, 9), (2, 9), (2, 36864), (2, 12288), (2, 4096), (2, 64), (2, 64), (4, 64), (2, 64), (2, 1028), (2, 1028), (2, 1028), (6, 0), (6, 0), (6, 0), (0, 0), (0, 0), (0, 0), (0, 0), (0, 0), (0, 0), (6, 0), (6, 0), (6, 0), (6, 0), (6, 0), (1, 0), (6, 0), (6, 0), (6, 0), (6, 0), (0, 0), (0, 0), (6, 0), (6, 0), (6, 0), (6, 0), (0, 0), (0, 0), (0, 0), (0, 0)]
def ly_M_23 : fl := [(0, 0), (0, 0), (0, 0), (0, 0), (2, 12288), (2, 128), (2, 32768), (0, 0), (2, 65536), (0, 0), (0, 0), (3, 3), (2, 3), (2, 3), (2, 3), (2, 9), (2, 9), (2, 9), (2, 9), (2, 36864), (2, 12288), (2, 4096), (2, 64), (2, 64), (4, 64), (2, 64), (2, 1028), (2, 1028), (2, 1028), (2, 8320), (6, 0), (6, 0), (0, 0), (0, 0), (0, 0), (0, 0), (0, 0), (0, 0), (6, 0), (6, 0), (6, 0), (6, 0), (6, 0), (1, 0), (6, 0), (6, 0), (6, 0), (6, 0), (0, 0), (0, 0), (6, 0), (6, 0), (6, 0), (6, 0), (0, 0), (0, 0), (0, 0), (0, 0)]
def ly_M_24 : fl := [(0, 0), (0, 0), (0, 0), (0, 0), (2, 12288), (2, 128), (2, 32768), (0, 0), (2, 65536), (0, 0), (0, 0), (3, 3), (2, 3), (2, 3), (2, 3), (2, 9), (2, 9), (2, 9), (2, 9), (2, 36864), (2, 12288), (2, 4096), (2, 64), (2, 64), (4, 64), (2, 64), (2, 1028), (2, 1028), (2, 1028), (2, 8320), (2, 8320), (6, 0), (0, 0), (0, 0), (0, 0), (0, 0), (0, 0), (0, 0), (6, 0), (6, 0), (6, 0), (6, 0), (6, 0), (1, 0), (6, 0), (6, 0), (6, 0), (6, 0), (0, 0), (0, 0), (6, 0), (6, 0), (6, 0), (6, 0), (0, 0), (0, 0), (0, 0), (0, 0)]
def ly_M_25 : fl := [(0, 0), (0, 0), (0, 0), (0, 0), (2, 12288), (2, 128), (2, 32768), (0, 0), (2, 65536), (0, 0), (0, 0), (3, 3), (2, 3), (2, 3), (2, 3), (2, 9), (2, 9), (2, 9), (2, 9), (2, 36864), (2, 12288), (2, 4096), (2, 64), (2, 64), (4, 64), (2, 64), (2, 1028), (2, 1028), (2, 1028), (2, 8320), (2, 8320), (2, 8320), (0, 0), (0, 0), (0, 0), (0, 0), (0, 0), (0, 0), (6, 0), (6, 0), (6, 0), (6, 0), (6, 0), (1, 0), (6, 0), (6, 0), (6, 0), (6, 0), (0, 0), (0, 0), (6, 0), (6, 0), (6, 0), (6, 0), (0, 0), (0, 0), (0, 0), (0, 0)]
def ly_M_26 : fl := [(0, 0), (0, 0), (0, 0), (0, 0), (2, 12288), (2, 128), (2, 32768), (0, 0), (2, 65536), (0, 0), (0, 0), (3, 3), (2, 3), (2, 3), (2, 3), (2, 9), (2, 9), (2, 9), (2, 9), (2, 36864), (2, 12288), (2, 4096), (2, 64), (2, 64), (4, 64), (2, 64), (2, 1028), (2, 1028), (2, 1028), (2, 8320), (2, 8320), (2, 8320), (0, 0), (0, 0), (0, 0), (0, 0), (0, 0), (0, 0), (2, 256), (6, 0), (6, 0), (6, 0), (6, 0), (1, 0), (6, 0), (6, 0), (6, 0), (6, 0), (0, 0), (0, 0), (6, 0), (6, 0), (6, 0), (6, 0), (0, 0), (0, 0), (0, 0), (0, 0)]
def ly_M_27 : fl := [(0, 0), (0, 0), (0, 0), (0, 0), (2, 12288), (2, 128), (2, 32768), (0, 0), (2, 65536), (0, 0), (0, 0), (3, 3), (2, 3), (2, 3), (2, 3), (2, 9), (2, 9), (2, 9), (2, 9), (2, 36864), (2, 12288), (2, 4096), (2, 64), (2, 64), (4, 64), (2, 64), (2, 1028), (2, 1028), (2, 1028), (2, 8320), (2, 8320), (2, 8320), (0, 0), (0, 0), (0, 0), (0, 0), (0, 0), (0, 0), (2, 256), (3, 4), (6, 0), (6, 0), (6, 0), (1, 0), (6, 0), (6, 0), (6, 0), (6, 0), (0, 0), (0, 0), (6, 0), (6, 0), (6, 0), (6, 0), (0, 0), (0, 0), (0, 0), (0, 0)]
def ly_M_28 : fl := [(0, 0), (0, 0), (0, 0), (0, 0), (2, 12288), (2, 128), (2, 32768), (0, 0), (2, 65536), (0, 0), (0, 0), (3, 3), (2, 3), (2, 3), (2, 3), (2, 9), (2, 9), (2, 9), (2, 9), (2, 36864), (2, 12288), (2, 4096), (2, 64), (2, 64), (4, 64), (2, 64), (2, 1028), (2, 1028), (2, 1028), (2, 8320), (2, 8320), (2, 8320), (0, 0), (0, 0), (0, 0), (0, 0), (0, 0), (0, 0), (2, 256), (3, 4), (2, 64), (6, 0), (6, 0), (1, 0), (6, 0), (6, 0), (6, 0), (6, 0), (0, 0), (0, 0), (6, 0), (6, 0), (6, 0), (6, 0), (0, 0), (0, 0), (0, 0), (0, 0)]
def ly_M_29 : fl := [(0, 0), (0, 0), (0, 0), (0, 0), (2, 12288), (2, 128), (2, 32768), (0, 0), (2, 65536), (0, 0), (0, 0), (3, 3), (2, 3), (2, 3), (2, 3), (2, 9), (2, 9), (2, 9), (2, 9), (2, 36864), (2, 12288), (2, 4096), (2, 64), (2, 64), (4, 64), (2, 64), (2, 1028), (2, 1028), (2, 1028), (2, 8320), (2, 8320), (2, 8320), (0, 0), (0, 0), (0, 0), (0, 0), (0, 0), (0, 0), (2, 256), (3, 4), (2, 64), (2, 1024), (6, 0), (1, 0), (6, 0), (6, 0), (6, 0), (6, 0), (0, 0), (0, 0), (6, 0), (6, 0), (6, 0), (6, 0), (0, 0), (0, 0), (0, 0), (0, 0)]
def ly_M_30 : fl := [(0, 0), (0, 0), (0, 0), (0, 0), (2, 12288), (2, 128), (2, 32768), (0, 0), (2, 65536), (0, 0), (0, 0), (3, 3), (2, 3), (2, 3), (2, 3), (2, 9), (2, 9), (2, 9), (2, 9), (2, 36864), (2, 12288), (2, 4096), (2, 64), (2, 64), (4, 64), (2, 64), (2, 1028), (2, 1028), (2, 1028), (2, 8320), (2, 8320), (2, 8320), (0, 0), (0, 0), (0, 0), (0, 0), (0, 0), (0, 0), (2, 256), (3, 4), (2, 64), (2, 1024), (3, 4), (1, 0), (6, 0), (6, 0), (6, 0), (6, 0), (0, 0), (0, 0), (6, 0), (6, 0), (6, 0), (6, 0), (0, 0), (0, 0), (0, 0), (0, 0)]
def ly_M_31 : fl := [(0, 0), (0, 0), (0, 0), (0, 0), (2, 12288), (2, 128), (2, 32768), (0, 0), (2, 65536), (0, 0), (0, 0), (3, 3), (2, 3), (2, 3), (2, 3), (2, 9), (2, 9), (2, 9), (2, 9), (2, 36864), (2, 12288), (2, 4096), (2, 64), (2, 64), (4, 64), (2, 64), (2, 1028), (2, 1028), (2, 1028), (2, 8320), (2, 8320), (2, 8320), (0, 0), (0, 0), (0, 0), (0, 0), (0, 0), (0, 0), (2, 256), (3, 4), (2, 64), (2, 1024), (3, 4), (1, 0), (2, 3), (6, 0), (6, 0), (6, 0), (0, 0), (0, 0), (6, 0), (6, 0), (6, 0), (6, 0), (0, 0), (0, 0), (0, 0), (0, 0)]
def ly_M_32 : fl := [(0, 0), (0, 0), (0, 0), (0, 0), (2, 12288), (2, 128), (2, 32768), (0, 0), (2, 65536), (0, 0), (0, 0), (3, 3), (2, 3), (2, 3), (2, 3), (2, 9), (2, 9), (2, 9), (2, 9), (2, 36864), (2, 12288), (2, 4096), (2, 64), (2, 64), (4, 64), (2, 64), (2, 1028), (2, 1028), (2, 1028), (2, 8320), (2, 8320), (2, 8320), (0, 0), (0, 0), (0, 0), (0, 0), (0, 0), (0, 0), (2, 256), (3, 4), (2, 64), (2, 1024), (3, 4), (1, 0), (2, 3), (2, 3), (6, 0), (6, 0), (0, 0), (0, 0), (6, 0), (6, 0), (6, 0), (6, 0), (0, 0), (0, 0), (0, 0), (0, 0)]
def ly_M_33 : fl := [(0, 0), (0, 0), (0, 0), (0, 0), (2, 12288), (2, 128), (2, 32768), (0, 0), (2, 65536), (0, 0), (0, 0), (3, 3), (2, 3), (2, 3), (2, 3), (2, 9), (2, 9), (2, 9), (2, 9), (2, 36864), (2, 12288), (2, 4096), (2, 64), (2, 64), (4, 64), (2, 64), (2, 1028), (2, 1028), (2, 1028), (2, 8320), (2, 8320), (2, 8320), (0, 0), (0, 0), (0, 0), (0, 0), (0, 0), (0, 0), (2, 256), (3, 4), (2, 64), (2, 1024), (3, 4), (1, 0), (2, 3), (2, 3), (2, 192), (6, 0), (0, 0), (0, 0), (6, 0), (6, 0), (6, 0), (6, 0), (0, 0), (0, 0), (0, 0), (0, 0)]
def ly_M_34 : fl := [(0, 0), (0, 0), (0, 0), (0, 0), (2, 12288), (2, 128), (2, 32768), (0, 0), (2, 65536), (0, 0), (0, 0), (3, 3), (2, 3), (2, 3), (2, 3), (2, 9), (2, 9), (2, 9), (2, 9), (2, 36864), (2, 12288), (2, 4096), (2, 64), (2, 64), (4, 64), (2, 64), (2, 1028), (2, 1028), (2, 1028), (2, 8320), (2, 8320), (2, 8320), (0, 0), (0, 0), (0, 0), (0, 0), (0, 0), (0, 0), (2, 256), (3, 4), (2, 64), (2, 1024), (3, 4), (1, 0), (2, 3), (2, 3), (2, 192), (3, 3), (0, 0), (0, 0), (6, 0), (6, 0), (6, 0), (6, 0), (0, 0), (0, 0), (0, 0), (0, 0)]
def ly_M_35 : fl := [(0, 0), (0, 0), (0, 0), (0, 0), (2, 12288), (2, 128), (2, 32768), (0, 0), (2, 65536), (0, 0), (0, 0), (3, 3), (2, 3), (2, 3), (2, 3), (2, 9), (2, 9), (2, 9), (2, 9), (2, 36864), (2, 12288), (2, 4096), (2, 64), (2, 64), (4, 64), (2, 64), (2, 1028), (2, 1028), (2, 1028), (2, 8320), (2, 8320), (2, 8320), (0, 0), (0, 0), (0, 0), (0, 0), (0, 0), (0, 0), (2, 256), (3, 4), (2, 64), (2, 1024), (3, 4), (1, 0), (2, 3), (2, 3), (2, 192), (3, 3), (0, 0), (0, 0), (2, 3), (6, 0), (6, 0), (6, 0), (0, 0), (0, 0), (0, 0), (0, 0)]
def ly_M_36 : fl := [(0, 0), (0, 0), (0, 0), (0, 0), (2, 12288), (2, 128), (2, 32768), (0, 0), (2, 65536), (0, 0), (0, 0), (3, 3), (2, 3), (2, 3), (2, 3), (2, 9), (2, 9), (2, 9), (2, 9), (2, 36864), (2, 12288), (2, 4096), (2, 64), (2, 64), (4, 64), (2, 64), (2, 1028), (2, 1028), (2, 1028), (2, 8320), (2, 8320), (2, 8320), (0, 0), (0, 0), (0, 0), (0, 0), (0, 0), (0, 0), (2, 256), (3, 4), (2, 64), (2, 1024), (3, 4), (1, 0), (2, 3), (2, 3), (2, 192), (3, 3), (0, 0), (0, 0), (2, 3), (2, 3), (6, 0), (6, 0), (0, 0), (0, 0), (0, 0), (0, 0)]
def ly_M_37 : fl := [(0, 0), (0, 0), (0, 0), (0, 0), (2, 12288), (2, 128), (2, 32768), (0, 0), (2, 65536), (0, 0), (0, 0), (3, 3), (2, 3), (2, 3), (2, 3), (2, 9), (2, 9), (2, 9), (2, 9), (2, 36864), (2, 12288), (2, 4096), (2, 64), (2, 64), (4, 64), (2, 64), (2, 1028), (2, 1028), (2, 1028), (2, 8320), (2, 8320), (2, 8320), (0, 0), (0, 0), (0, 0), (0, 0), (0, 0), (0, 0), (2, 256), (3, 4), (2, 64), (2, 1024), (3, 4), (1, 0), (2, 3), (2, 3), (2, 192), (3, 3), (0, 0), (0, 0), (2, 3), (2, 3), (2, 3), (6, 0), (0, 0), (0, 0), (0, 0), (0, 0)]
def ly_M_38 : fl := [(0, 0), (0, 0), (0, 0), (0, 0), (2, 12288), (2, 128), (2, 32768), (0, 0), (2, 65536), (0, 0), (0, 0), (3, 3), (2, 3), (2, 3), (2, 3), (2, 9), (2, 9), (2, 9), (2, 9), (2, 36864), (2, 12288), (2, 4096), (2, 64), (2, 64), (4, 64), (2, 64), (2, 1028), (2, 1028), (2, 1028), (2, 8320), (2, 8320), (2, 8320), (0, 0), (0, 0), (0, 0), (0, 0), (0, 0), (0, 0), (2, 256), (3, 4), (2, 64), (2, 1024), (3, 4), (1, 0), (2, 3), (2, 3), (2, 192), (3, 3), (0, 0), (0, 0), (2, 3), (2, 3), (2, 3), (2, 3), (0, 0), (0, 0), (0, 0), (0, 0)]
section M_initc
variable {D : va_G} {z : Nat → ClassId} {o : Nat}
set_option maxRecDepth 100000 in
set_option maxHeartbeats 4000000 in
theorem ct_init {l : Launch} {K : ms → Prop} (hp : p_init ((upd (upd (upd (upd (fun _ => 0) 1 8) 2 8) 3 1) 10 (-1)), fun _ _ => 0, fun _ _ => 0) K) : ct gG D z l n_M_init c_M_init 5 none 2 200 [.ref o] [(0, ly_M_0, (o, fun _ => 0, fun _ => 0, fun _ _ => 0, fun _ _ => 0))] 38 193881 (pM_n K o) := by
  refine ct_ofI (lo := [some (.ref o), none, none, none, none]) (by decide) g_ok (Nat.le_of_ble_eq_true rfl) rfl ?_
  intro X A _ C hR hQ hA _ hin
  refine a_aload_n C d_init_0 rfl rfl ?_
  refine a_obj C d_init_1 lo_M oi_M oc_M (Nat.le_of_ble_eq_true rfl) (by rw [hR]; exact Nat.le_of_ble_eq_true rfl) (by rw [hR]; exact Nat.le_of_ble_eq_true rfl) ?_
  refine a_aload_n C d_init_4 rfl rfl ?_
  refine a_bipush (v := 8) C d_init_5 (by decide) ?_
  refine a_putI (ty := .int) C 0 1 d_init_7 rfl rfl rfl (Nat.le_of_ble_eq_true rfl) f_M_7 (Nat.le_of_ble_eq_true rfl) rfl rfl rfl rfl ?_
  refine aw_eq (lo' := _) (st' := _) (L' := [(0, ly_M_0, (o, (fun _ => 0), (upd (fun _ => 0) 1 8), fun _ _ => 0, fun _ _ => 0))]) rfl rfl rfl ?_
  refine a_aload_n C d_init_10 rfl rfl ?_
  refine a_bipush (v := 8) C d_init_11 (by decide) ?_
  refine a_putI (ty := .int) C 0 2 d_init_13 rfl rfl rfl (Nat.le_of_ble_eq_true rfl) f_M_13 (Nat.le_of_ble_eq_true rfl) rfl rfl rfl rfl ?_
  refine aw_eq (lo' := _) (st' := _) (L' := [(0, ly_M_0, (o, (fun _ => 0), (upd (upd (fun _ => 0) 1 8) 2 8), fun _ _ => 0, fun _ _ => 0))]) rfl rfl rfl ?_
  refine a_aload_n C d_init_16 rfl rfl ?_
  refine a_iconst (v := 1) C d_init_17 (by decide) ?_
  refine a_putI (ty := .int) C 0 3 d_init_18 rfl rfl rfl (Nat.le_of_ble_eq_true rfl) f_M_16 (Nat.le_of_ble_eq_true rfl) rfl rfl rfl rfl ?_
  refine aw_eq (lo' := _) (st' := _) (L' := [(0, ly_M_0, (o, (fun _ => 0), (upd (upd (upd (fun _ => 0) 1 8) 2 8) 3 1), fun _ _ => 0, fun _ _ => 0))]) rfl rfl rfl ?_
  refine a_aload_n C d_init_21 rfl rfl ?_
  refine a_sipush (v := 12288) C d_init_22 (by decide) ?_
  refine a_newa (ty := .int) (N := 12288) C 2 d_init_25 ac_int rfl (C.kn.2 0 _ rfl).2 (fun _ => rfl) (by decide) (by decide) (by decide) (by rw [hR]; exact Nat.le_of_ble_eq_true rfl) (by rw [hR]; exact Nat.le_of_ble_eq_true rfl) (fun q25 => ?_)
  refine a_putA (ty := .array .int) C 0 4 hin d_init_27 rfl rfl rfl (Nat.le_of_ble_eq_true rfl) f_M_19 rfl rfl rfl rfl rfl (ly' := ly_M_1) rfl (Nat.le_of_ble_eq_true rfl) ⟨Nat.le_of_ble_eq_true rfl, Nat.le_of_ble_eq_true rfl⟩ ?_
  refine aw_eq (lo' := _) (st' := _) (L' := [(0, ly_M_1, (o, (va_up (fun _ => 0) 4 q25), (upd (upd (upd (fun _ => 0) 1 8) 2 8) 3 1), fun _ _ => 0, fun _ _ => 0))]) rfl rfl rfl ?_
  refine a_aload_n C d_init_30 rfl rfl ?_
  refine a_sipush (v := 128) C d_init_31 (by decide) ?_
  refine a_newa (ty := .int) (N := 128) C 2 d_init_34 ac_int rfl (C.kn.2 0 _ rfl).2 (fun _ => rfl) (by decide) (by decide) (by decide) (by rw [hR]; exact Nat.le_of_ble_eq_true rfl) (by rw [hR]; exact Nat.le_of_ble_eq_true rfl) (fun q34 => ?_)
  refine a_putA (ty := .array .int) C 0 5 hin d_init_36 rfl rfl rfl (Nat.le_of_ble_eq_true rfl) f_M_23 rfl rfl rfl rfl rfl (ly' := ly_M_2) rfl (Nat.le_of_ble_eq_true rfl) ⟨Nat.le_of_ble_eq_true rfl, Nat.le_of_ble_eq_true rfl⟩ ?_
  refine aw_eq (lo' := _) (st' := _) (L' := [(0, ly_M_2, (o, (va_up (va_up (fun _ => 0) 4 q25) 5 q34), (upd (upd (upd (fun _ => 0) 1 8) 2 8) 3 1), fun _ _ => 0, fun _ _ => 0))]) rfl rfl rfl ?_
  refine a_aload_n C d_init_39 rfl rfl ?_
  refine a_ldc (v := 32768) C d_init_40 k_M_26 ?_
  refine a_newa (ty := .int) (N := 32768) C 2 d_init_42 ac_int rfl (C.kn.2 0 _ rfl).2 (fun _ => rfl) (by decide) (by decide) (by decide) (by rw [hR]; exact Nat.le_of_ble_eq_true rfl) (by rw [hR]; exact Nat.le_of_ble_eq_true rfl) (fun q42 => ?_)
  refine a_putA (ty := .array .int) C 0 6 hin d_init_44 rfl rfl rfl (Nat.le_of_ble_eq_true rfl) f_M_27 rfl rfl rfl rfl rfl (ly' := ly_M_3) rfl (Nat.le_of_ble_eq_true rfl) ⟨Nat.le_of_ble_eq_true rfl, Nat.le_of_ble_eq_true rfl⟩ ?_
  refine aw_eq (lo' := _) (st' := _) (L' := [(0, ly_M_3, (o, (va_up (va_up (va_up (fun _ => 0) 4 q25) 5 q34) 6 q42), (upd (upd (upd (fun _ => 0) 1 8) 2 8) 3 1), fun _ _ => 0, fun _ _ => 0))]) rfl rfl rfl ?_
  refine a_aload_n C d_init_47 rfl rfl ?_
  refine a_ldc (v := 65536) C d_init_48 k_M_30 ?_
  refine a_newa (ty := .int) (N := 65536) C 2 d_init_50 ac_int rfl (C.kn.2 0 _ rfl).2 (fun _ => rfl) (by decide) (by decide) (by decide) (by rw [hR]; exact Nat.le_of_ble_eq_true rfl) (by rw [hR]; exact Nat.le_of_ble_eq_true rfl) (fun q50 => ?_)
  refine a_putA (ty := .array .int) C 0 8 hin d_init_52 rfl rfl rfl (Nat.le_of_ble_eq_true rfl) f_M_31 rfl rfl rfl rfl rfl (ly' := ly_M_4) rfl (Nat.le_of_ble_eq_true rfl) ⟨Nat.le_of_ble_eq_true rfl, Nat.le_of_ble_eq_true rfl⟩ ?_
  refine aw_eq (lo' := _) (st' := _) (L' := [(0, ly_M_4, (o, (va_up (va_up (va_up (va_up (fun _ => 0) 4 q25) 5 q34) 6 q42) 8 q50), (upd (upd (upd (fun _ => 0) 1 8) 2 8) 3 1), fun _ _ => 0, fun _ _ => 0))]) rfl rfl rfl ?_
  refine a_aload_n C d_init_55 rfl rfl ?_
  refine a_iconst (v := (-1)) C d_init_56 (by decide) ?_
  refine a_putI (ty := .int) C 0 10 d_init_57 rfl rfl rfl (Nat.le_of_ble_eq_true rfl) f_M_34 (Nat.le_of_ble_eq_true rfl) rfl rfl rfl rfl ?_
  refine aw_eq (lo' := _) (st' := _) (L' := [(0, ly_M_4, (o, (va_up (va_up (va_up (va_up (fun _ => 0) 4 q25) 5 q34) 6 q42) 8 q50), (upd (upd (upd (upd (fun _ => 0) 1 8) 2 8) 3 1) 10 (-1)), fun _ _ => 0, fun _ _ => 0))]) rfl rfl rfl ?_
  refine a_aload_n C d_init_60 rfl rfl ?_
  refine a_iconst (v := 3) C d_init_61 (by decide) ?_
  refine a_newa (ty := .boolean) (N := 3) C 3 d_init_62 ac_boolean rfl (C.kn.2 1 _ rfl).2 (fun _ => rfl) (by decide) (by decide) (by decide) (by rw [hR]; exact Nat.le_of_ble_eq_true rfl) (by rw [hR]; exact Nat.le_of_ble_eq_true rfl) (fun q62 => ?_)
  refine a_putA (ty := .array .boolean) C 0 11 hin d_init_64 rfl rfl rfl (Nat.le_of_ble_eq_true rfl) f_M_37 rfl rfl rfl rfl rfl (ly' := ly_M_5) rfl (Nat.le_of_ble_eq_true rfl) ⟨Nat.le_of_ble_eq_true rfl, Nat.le_of_ble_eq_true rfl⟩ ?_
  refine aw_eq (lo' := _) (st' := _) (L' := [(0, ly_M_5, (o, (va_up (va_up (va_up (va_up (va_up (fun _ => 0) 4 q25) 5 q34) 6 q42) 8 q50) 11 q62), (upd (upd (upd (upd (fun _ => 0) 1 8) 2 8) 3 1) 10 (-1)), fun _ _ => 0, fun _ _ => 0))]) rfl rfl rfl ?_
  refine a_aload_n C d_init_67 rfl rfl ?_
  refine a_iconst (v := 3) C d_init_68 (by decide) ?_
  refine a_newa (ty := .int) (N := 3) C 2 d_init_69 ac_int rfl (C.kn.2 0 _ rfl).2 (fun _ => rfl) (by decide) (by decide) (by decide) (by rw [hR]; exact Nat.le_of_ble_eq_true rfl) (by rw [hR]; exact Nat.le_of_ble_eq_true rfl) (fun q69 => ?_)
  refine a_putA (ty := .array .int) C 0 12 hin d_init_71 rfl rfl rfl (Nat.le_of_ble_eq_true rfl) f_M_41 rfl rfl rfl rfl rfl (ly' := ly_M_6) rfl (Nat.le_of_ble_eq_true rfl) ⟨Nat.le_of_ble_eq_true rfl, Nat.le_of_ble_eq_true rfl⟩ ?_
  refine aw_eq (lo' := _) (st' := _) (L' := [(0, ly_M_6, (o, (va_up (va_up (va_up (va_up (va_up (va_up (fun _ => 0) 4 q25) 5 q34) 6 q42) 8 q50) 11 q62) 12 q69), (upd (upd (upd (upd (fun _ => 0) 1 8) 2 8) 3 1) 10 (-1)), fun _ _ => 0, fun _ _ => 0))]) rfl rfl rfl ?_
  refine a_aload_n C d_init_74 rfl rfl ?_
  refine a_iconst (v := 3) C d_init_75 (by decide) ?_
  refine a_newa (ty := .int) (N := 3) C 2 d_init_76 ac_int rfl (C.kn.2 0 _ rfl).2 (fun _ => rfl) (by decide) (by decide) (by decide) (by rw [hR]; exact Nat.le_of_ble_eq_true rfl) (by rw [hR]; exact Nat.le_of_ble_eq_true rfl) (fun q76 => ?_)
  refine a_putA (ty := .array .int) C 0 13 hin d_init_78 rfl rfl rfl (Nat.le_of_ble_eq_true rfl) f_M_44 rfl rfl rfl rfl rfl (ly' := ly_M_7) rfl (Nat.le_of_ble_eq_true rfl) ⟨Nat.le_of_ble_eq_true rfl, Nat.le_of_ble_eq_true rfl⟩ ?_
  refine aw_eq (lo' := _) (st' := _) (L' := [(0, ly_M_7, (o, (va_up (va_up (va_up (va_up (va_up (va_up (va_up (fun _ => 0) 4 q25) 5 q34) 6 q42) 8 q50) 11 q62) 12 q69) 13 q76), (upd (upd (upd (upd (fun _ => 0) 1 8) 2 8) 3 1) 10 (-1)), fun _ _ => 0, fun _ _ => 0))]) rfl rfl rfl ?_
  refine a_aload_n C d_init_81 rfl rfl ?_
  refine a_iconst (v := 3) C d_init_82 (by decide) ?_
  refine a_newa (ty := .int) (N := 3) C 2 d_init_83 ac_int rfl (C.kn.2 0 _ rfl).2 (fun _ => rfl) (by decide) (by decide) (by decide) (by rw [hR]; exact Nat.le_of_ble_eq_true rfl) (by rw [hR]; exact Nat.le_of_ble_eq_true rfl) (fun q83 => ?_)
  refine a_putA (ty := .array .int) C 0 14 hin d_init_85 rfl rfl rfl (Nat.le_of_ble_eq_true rfl) f_M_47 rfl rfl rfl rfl rfl (ly' := ly_M_8) rfl (Nat.le_of_ble_eq_true rfl) ⟨Nat.le_of_ble_eq_true rfl, Nat.le_of_ble_eq_true rfl⟩ ?_
  refine aw_eq (lo' := _) (st' := _) (L' := [(0, ly_M_8, (o, (va_up (va_up (va_up (va_up (va_up (va_up (va_up (va_up (fun _ => 0) 4 q25) 5 q34) 6 q42) 8 q50) 11 q62) 12 q69) 13 q76) 14 q83), (upd (upd (upd (upd (fun _ => 0) 1 8) 2 8) 3 1) 10 (-1)), fun _ _ => 0, fun _ _ => 0))]) rfl rfl rfl ?_
  refine a_aload_n C d_init_88 rfl rfl ?_
  refine a_bipush (v := 9) C d_init_89 (by decide) ?_
  refine a_newa (ty := .int) (N := 9) C 2 d_init_91 ac_int rfl (C.kn.2 0 _ rfl).2 (fun _ => rfl) (by decide) (by decide) (by decide) (by rw [hR]; exact Nat.le_of_ble_eq_true rfl) (by rw [hR]; exact Nat.le_of_ble_eq_true rfl) (fun q91 => ?_)
  refine a_putA (ty := .array .int) C 0 15 hin d_init_93 rfl rfl rfl (Nat.le_of_ble_eq_true rfl) f_M_50 rfl rfl rfl rfl rfl (ly' := ly_M_9) rfl (Nat.le_of_ble_eq_true rfl) ⟨Nat.le_of_ble_eq_true rfl, Nat.le_of_ble_eq_true rfl⟩ ?_
  refine aw_eq (lo' := _) (st' := _) (L' := [(0, ly_M_9, (o, (va_up (va_up (va_up (va_up (va_up (va_up (va_up (va_up (va_up (fun _ => 0) 4 q25) 5 q34) 6 q42) 8 q50) 11 q62) 12 q69) 13 q76) 14 q83) 15 q91), (upd (upd (upd (upd (fun _ => 0) 1 8) 2 8) 3 1) 10 (-1)), fun _ _ => 0, fun _ _ => 0))]) rfl rfl rfl ?_
  refine a_aload_n C d_init_96 rfl rfl ?_
  refine a_bipush (v := 9) C d_init_97 (by decide) ?_
  refine a_newa (ty := .int) (N := 9) C 2 d_init_99 ac_int rfl (C.kn.2 0 _ rfl).2 (fun _ => rfl) (by decide) (by decide) (by decide) (by rw [hR]; exact Nat.le_of_ble_eq_true rfl) (by rw [hR]; exact Nat.le_of_ble_eq_true rfl) (fun q99 => ?_)
  refine a_putA (ty := .array .int) C 0 16 hin d_init_101 rfl rfl rfl (Nat.le_of_ble_eq_true rfl) f_M_53 rfl rfl rfl rfl rfl (ly' := ly_M_10) rfl (Nat.le_of_ble_eq_true rfl) ⟨Nat.le_of_ble_eq_true rfl, Nat.le_of_ble_eq_true rfl⟩ ?_
  refine aw_eq (lo' := _) (st' := _) (L' := [(0, ly_M_10, (o, (va_up (va_up (va_up (va_up (va_up (va_up (va_up (va_up (va_up (va_up (fun _ => 0) 4 q25) 5 q34) 6 q42) 8 q50) 11 q62) 12 q69) 13 q76) 14 q83) 15 q91) 16 q99), (upd (upd (upd (upd (fun _ => 0) 1 8) 2 8) 3 1) 10 (-1)), fun _ _ => 0, fun _ _ => 0))]) rfl rfl rfl ?_
  refine a_aload_n C d_init_104 rfl rfl ?_
  refine a_bipush (v := 9) C d_init_105 (by decide) ?_
  refine a_newa (ty := .int) (N := 9) C 2 d_init_107 ac_int rfl (C.kn.2 0 _ rfl).2 (fun _ => rfl) (by decide) (by decide) (by decide) (by rw [hR]; exact Nat.le_of_ble_eq_true rfl) (by rw [hR]; exact Nat.le_of_ble_eq_true rfl) (fun q107 => ?_)
  refine a_putA (ty := .array .int) C 0 17 hin d_init_109 rfl rfl rfl (Nat.le_of_ble_eq_true rfl) f_M_56 rfl rfl rfl rfl rfl (ly' := ly_M_11) rfl (Nat.le_of_ble_eq_true rfl) ⟨Nat.le_of_ble_eq_true rfl, Nat.le_of_ble_eq_true rfl⟩ ?_
  refine aw_eq (lo' := _) (st' := _) (L' := [(0, ly_M_11, (o, (va_up (va_up (va_up (va_up (va_up (va_up (va_up (va_up (va_up (va_up (va_up (fun _ => 0) 4 q25) 5 q34) 6 q42) 8 q50) 11 q62) 12 q69) 13 q76) 14 q83) 15 q91) 16 q99) 17 q107), (upd (upd (upd (upd (fun _ => 0) 1 8) 2 8) 3 1) 10 (-1)), fun _ _ => 0, fun _ _ => 0))]) rfl rfl rfl ?_
  refine a_aload_n C d_init_112 rfl rfl ?_
  refine a_bipush (v := 9) C d_init_113 (by decide) ?_
  refine a_newa (ty := .int) (N := 9) C 2 d_init_115 ac_int rfl (C.kn.2 0 _ rfl).2 (fun _ => rfl) (by decide) (by decide) (by decide) (by rw [hR]; exact Nat.le_of_ble_eq_true rfl) (by rw [hR]; exact Nat.le_of_ble_eq_true rfl) (fun q115 => ?_)
  refine a_putA (ty := .array .int) C 0 18 hin d_init_117 rfl rfl rfl (Nat.le_of_ble_eq_true rfl) f_M_59 rfl rfl rfl rfl rfl (ly' := ly_M_12) rfl (Nat.le_of_ble_eq_true rfl) ⟨Nat.le_of_ble_eq_true rfl, Nat.le_of_ble_eq_true rfl⟩ ?_
  refine aw_eq (lo' := _) (st' := _) (L' := [(0, ly_M_12, (o, (va_up (va_up (va_up (va_up (va_up (va_up (va_up (va_up (va_up (va_up (va_up (va_up (fun _ => 0) 4 q25) 5 q34) 6 q42) 8 q50) 11 q62) 12 q69) 13 q76) 14 q83) 15 q91) 16 q99) 17 q107) 18 q115), (upd (upd (upd (upd (fun _ => 0) 1 8) 2 8) 3 1) 10 (-1)), fun _ _ => 0, fun _ _ => 0))]) rfl rfl rfl ?_
  refine a_aload_n C d_init_120 rfl rfl ?_
  refine a_ldc (v := 36864) C d_init_121 k_M_62 ?_
  refine a_newa (ty := .int) (N := 36864) C 2 d_init_123 ac_int rfl (C.kn.2 0 _ rfl).2 (fun _ => rfl) (by decide) (by decide) (by decide) (by rw [hR]; exact Nat.le_of_ble_eq_true rfl) (by rw [hR]; exact Nat.le_of_ble_eq_true rfl) (fun q123 => ?_)
  refine a_putA (ty := .array .int) C 0 19 hin d_init_125 rfl rfl rfl (Nat.le_of_ble_eq_true rfl) f_M_63 rfl rfl rfl rfl rfl (ly' := ly_M_13) rfl (Nat.le_of_ble_eq_true rfl) ⟨Nat.le_of_ble_eq_true rfl, Nat.le_of_ble_eq_true rfl⟩ ?_
  refine aw_eq (lo' := _) (st' := _) (L' := [(0, ly_M_13, (o, (va_up (va_up (va_up (va_up (va_up (va_up (va_up (va_up (va_up (va_up (va_up (va_up (va_up (fun _ => 0) 4 q25) 5 q34) 6 q42) 8 q50) 11 q62) 12 q69) 13 q76) 14 q83) 15 q91) 16 q99) 17 q107) 18 q115) 19 q123), (upd (upd (upd (upd (fun _ => 0) 1 8) 2 8) 3 1) 10 (-1)), fun _ _ => 0, fun _ _ => 0))]) rfl rfl rfl ?_
  refine a_aload_n C d_init_128 rfl rfl ?_
  refine a_sipush (v := 12288) C d_init_129 (by decide) ?_
  refine a_newa (ty := .int) (N := 12288) C 2 d_init_132 ac_int rfl (C.kn.2 0 _ rfl).2 (fun _ => rfl) (by decide) (by decide) (by decide) (by rw [hR]; exact Nat.le_of_ble_eq_true rfl) (by rw [hR]; exact Nat.le_of_ble_eq_true rfl) (fun q132 => ?_)
  refine a_putA (ty := .array .int) C 0 20 hin d_init_134 rfl rfl rfl (Nat.le_of_ble_eq_true rfl) f_M_66 rfl rfl rfl rfl rfl (ly' := ly_M_14) rfl (Nat.le_of_ble_eq_true rfl) ⟨Nat.le_of_ble_eq_true rfl, Nat.le_of_ble_eq_true rfl⟩ ?_
  refine aw_eq (lo' := _) (st' := _) (L' := [(0, ly_M_14, (o, (va_up (va_up (va_up (va_up (va_up (va_up (va_up (va_up (va_up (va_up (va_up (va_up (va_up (va_up (fun _ => 0) 4 q25) 5 q34) 6 q42) 8 q50) 11 q62) 12 q69) 13 q76) 14 q83) 15 q91) 16 q99) 17 q107) 18 q115) 19 q123) 20 q132), (upd (upd (upd (upd (fun _ => 0) 1 8) 2 8) 3 1) 10 (-1)), fun _ _ => 0, fun _ _ => 0))]) rfl rfl rfl ?_
  refine a_aload_n C d_init_137 rfl rfl ?_
  refine a_sipush (v := 4096) C d_init_138 (by decide) ?_
  refine a_newa (ty := .int) (N := 4096) C 2 d_init_141 ac_int rfl (C.kn.2 0 _ rfl).2 (fun _ => rfl) (by decide) (by decide) (by decide) (by rw [hR]; exact Nat.le_of_ble_eq_true rfl) (by rw [hR]; exact Nat.le_of_ble_eq_true rfl) (fun q141 => ?_)
  refine a_putA (ty := .array .int) C 0 21 hin d_init_143 rfl rfl rfl (Nat.le_of_ble_eq_true rfl) f_M_69 rfl rfl rfl rfl rfl (ly' := ly_M_15) rfl (Nat.le_of_ble_eq_true rfl) ⟨Nat.le_of_ble_eq_true rfl, Nat.le_of_ble_eq_true rfl⟩ ?_
  refine aw_eq (lo' := _) (st' := _) (L' := [(0, ly_M_15, (o, (va_up (va_up (va_up (va_up (va_up (va_up (va_up (va_up (va_up (va_up (va_up (va_up (va_up (va_up (va_up (fun _ => 0) 4 q25) 5 q34) 6 q42) 8 q50) 11 q62) 12 q69) 13 q76) 14 q83) 15 q91) 16 q99) 17 q107) 18 q115) 19 q123) 20 q132) 21 q141), (upd (upd (upd (upd (fun _ => 0) 1 8) 2 8) 3 1) 10 (-1)), fun _ _ => 0, fun _ _ => 0))]) rfl rfl rfl ?_
  refine a_aload_n C d_init_146 rfl rfl ?_
  refine a_bipush (v := 64) C d_init_147 (by decide) ?_
  refine a_newa (ty := .int) (N := 64) C 2 d_init_149 ac_int rfl (C.kn.2 0 _ rfl).2 (fun _ => rfl) (by decide) (by decide) (by decide) (by rw [hR]; exact Nat.le_of_ble_eq_true rfl) (by rw [hR]; exact Nat.le_of_ble_eq_true rfl) (fun q149 => ?_)
  refine a_putA (ty := .array .int) C 0 22 hin d_init_151 rfl rfl rfl (Nat.le_of_ble_eq_true rfl) f_M_72 rfl rfl rfl rfl rfl (ly' := ly_M_16) rfl (Nat.le_of_ble_eq_true rfl) ⟨Nat.le_of_ble_eq_true rfl, Nat.le_of_ble_eq_true rfl⟩ ?_
  refine aw_eq (lo' := _) (st' := _) (L' := [(0, ly_M_16, (o, (va_up (va_up (va_up (va_up (va_up (va_up (va_up (va_up (va_up (va_up (va_up (va_up (va_up (va_up (va_up (va_up (fun _ => 0) 4 q25) 5 q34) 6 q42) 8 q50) 11 q62) 12 q69) 13 q76) 14 q83) 15 q91) 16 q99) 17 q107) 18 q115) 19 q123) 20 q132) 21 q141) 22 q149), (upd (upd (upd (upd (fun _ => 0) 1 8) 2 8) 3 1) 10 (-1)), fun _ _ => 0, fun _ _ => 0))]) rfl rfl rfl ?_
  refine a_aload_n C d_init_154 rfl rfl ?_
  refine a_bipush (v := 64) C d_init_155 (by decide) ?_
  refine a_newa (ty := .int) (N := 64) C 2 d_init_157 ac_int rfl (C.kn.2 0 _ rfl).2 (fun _ => rfl) (by decide) (by decide) (by decide) (by rw [hR]; exact Nat.le_of_ble_eq_true rfl) (by rw [hR]; exact Nat.le_of_ble_eq_true rfl) (fun q157 => ?_)
  refine a_putA (ty := .array .int) C 0 23 hin d_init_159 rfl rfl rfl (Nat.le_of_ble_eq_true rfl) f_M_75 rfl rfl rfl rfl rfl (ly' := ly_M_17) rfl (Nat.le_of_ble_eq_true rfl) ⟨Nat.le_of_ble_eq_true rfl, Nat.le_of_ble_eq_true rfl⟩ ?_
  refine aw_eq (lo' := _) (st' := _) (L' := [(0, ly_M_17, (o, (va_up (va_up (va_up (va_up (va_up (va_up (va_up (va_up (va_up (va_up (va_up (va_up (va_up (va_up (va_up (va_up (va_up (fun _ => 0) 4 q25) 5 q34) 6 q42) 8 q50) 11 q62) 12 q69) 13 q76) 14 q83) 15 q91) 16 q99) 17 q107) 18 q115) 19 q123) 20 q132) 21 q141) 22 q149) 23 q157), (upd (upd (upd (upd (fun _ => 0) 1 8) 2 8) 3 1) 10 (-1)), fun _ _ => 0, fun _ _ => 0))]) rfl rfl rfl ?_
  refine a_aload_n C d_init_162 rfl rfl ?_
  refine a_bipush (v := 64) C d_init_163 (by decide) ?_
  refine a_newa (ty := .long) (N := 64) C 4 d_init_165 ac_long rfl (C.kn.2 2 _ rfl).2 (fun _ => rfl) (by decide) (by decide) (by decide) (by rw [hR]; exact Nat.le_of_ble_eq_true rfl) (by rw [hR]; exact Nat.le_of_ble_eq_true rfl) (fun q165 => ?_)
  refine a_putA (ty := .array .long) C 0 24 hin d_init_167 rfl rfl rfl (Nat.le_of_ble_eq_true rfl) f_M_78 rfl rfl rfl rfl rfl (ly' := ly_M_18) rfl (Nat.le_of_ble_eq_true rfl) ⟨Nat.le_of_ble_eq_true rfl, Nat.le_of_ble_eq_true rfl⟩ ?_
  refine aw_eq (lo' := _) (st' := _) (L' := [(0, ly_M_18, (o, (va_up (va_up (va_up (va_up (va_up (va_up (va_up (va_up (va_up (va_up (va_up (va_up (va_up (va_up (va_up (va_up (va_up (va_up (fun _ => 0) 4 q25) 5 q34) 6 q42) 8 q50) 11 q62) 12 q69) 13 q76) 14 q83) 15 q91) 16 q99) 17 q107) 18 q115) 19 q123) 20 q132) 21 q141) 22 q149) 23 q157) 24 q165), (upd (upd (upd (upd (fun _ => 0) 1 8) 2 8) 3 1) 10 (-1)), fun _ _ => 0, fun _ _ => 0))]) rfl rfl rfl ?_
  refine a_aload_n C d_init_170 rfl rfl ?_
  refine a_bipush (v := 64) C d_init_171 (by decide) ?_
  refine a_newa (ty := .int) (N := 64) C 2 d_init_173 ac_int rfl (C.kn.2 0 _ rfl).2 (fun _ => rfl) (by decide) (by decide) (by decide) (by rw [hR]; exact Nat.le_of_ble_eq_true rfl) (by rw [hR]; exact Nat.le_of_ble_eq_true rfl) (fun q173 => ?_)
  refine a_putA (ty := .array .int) C 0 25 hin d_init_175 rfl rfl rfl (Nat.le_of_ble_eq_true rfl) f_M_82 rfl rfl rfl rfl rfl (ly' := ly_M_19) rfl (Nat.le_of_ble_eq_true rfl) ⟨Nat.le_of_ble_eq_true rfl, Nat.le_of_ble_eq_true rfl⟩ ?_
  refine aw_eq (lo' := _) (st' := _) (L' := [(0, ly_M_19, (o, (va_up (va_up (va_up (va_up (va_up (va_up (va_up (va_up (va_up (va_up (va_up (va_up (va_up (va_up (va_up (va_up (va_up (va_up (va_up (fun _ => 0) 4 q25) 5 q34) 6 q42) 8 q50) 11 q62) 12 q69) 13 q76) 14 q83) 15 q91) 16 q99) 17 q107) 18 q115) 19 q123) 20 q132) 21 q141) 22 q149) 23 q157) 24 q165) 25 q173), (upd (upd (upd (upd (fun _ => 0) 1 8) 2 8) 3 1) 10 (-1)), fun _ _ => 0, fun _ _ => 0))]) rfl rfl rfl ?_
  refine a_aload_n C d_init_178 rfl rfl ?_
  refine a_sipush (v := 1028) C d_init_179 (by decide) ?_
  refine a_newa (ty := .int) (N := 1028) C 2 d_init_182 ac_int rfl (C.kn.2 0 _ rfl).2 (fun _ => rfl) (by decide) (by decide) (by decide) (by rw [hR]; exact Nat.le_of_ble_eq_true rfl) (by rw [hR]; exact Nat.le_of_ble_eq_true rfl) (fun q182 => ?_)
  refine a_putA (ty := .array .int) C 0 26 hin d_init_184 rfl rfl rfl (Nat.le_of_ble_eq_true rfl) f_M_85 rfl rfl rfl rfl rfl (ly' := ly_M_20) rfl (Nat.le_of_ble_eq_true rfl) ⟨Nat.le_of_ble_eq_true rfl, Nat.le_of_ble_eq_true rfl⟩ ?_
  refine aw_eq (lo' := _) (st' := _) (L' := [(0, ly_M_20, (o, (va_up (va_up (va_up (va_up (va_up (va_up (va_up (va_up (va_up (va_up (va_up (va_up (va_up (va_up (va_up (va_up (va_up (va_up (va_up (va_up (fun _ => 0) 4 q25) 5 q34) 6 q42) 8 q50) 11 q62) 12 q69) 13 q76) 14 q83) 15 q91) 16 q99) 17 q107) 18 q115) 19 q123) 20 q132) 21 q141) 22 q149) 23 q157) 24 q165) 25 q173) 26 q182), (upd (upd (upd (upd (fun _ => 0) 1 8) 2 8) 3 1) 10 (-1)), fun _ _ => 0, fun _ _ => 0))]) rfl rfl rfl ?_
  refine a_aload_n C d_init_187 rfl rfl ?_
  refine a_sipush (v := 1028) C d_init_188 (by decide) ?_
  refine a_newa (ty := .int) (N := 1028) C 2 d_init_191 ac_int rfl (C.kn.2 0 _ rfl).2 (fun _ => rfl) (by decide) (by decide) (by decide) (by rw [hR]; exact Nat.le_of_ble_eq_true rfl) (by rw [hR]; exact Nat.le_of_ble_eq_true rfl) (fun q191 => ?_)
  refine a_putA (ty := .array .int) C 0 27 hin d_init_193 rfl rfl rfl (Nat.le_of_ble_eq_true rfl) f_M_88 rfl rfl rfl rfl rfl (ly' := ly_M_21) rfl (Nat.le_of_ble_eq_true rfl) ⟨Nat.le_of_ble_eq_true rfl, Nat.le_of_ble_eq_true rfl⟩ ?_
  refine aw_eq (lo' := _) (st' := _) (L' := [(0, ly_M_21, (o, (va_up (va_up (va_up (va_up (va_up (va_up (va_up (va_up (va_up (va_up (va_up (va_up (va_up (va_up (va_up (va_up (va_up (va_up (va_up (va_up (va_up (fun _ => 0) 4 q25) 5 q34) 6 q42) 8 q50) 11 q62) 12 q69) 13 q76) 14 q83) 15 q91) 16 q99) 17 q107) 18 q115) 19 q123) 20 q132) 21 q141) 22 q149) 23 q157) 24 q165) 25 q173) 26 q182) 27 q191), (upd (upd (upd (upd (fun _ => 0) 1 8) 2 8) 3 1) 10 (-1)), fun _ _ => 0, fun _ _ => 0))]) rfl rfl rfl ?_
  refine a_aload_n C d_init_196 rfl rfl ?_
  refine a_sipush (v := 1028) C d_init_197 (by decide) ?_
  refine a_newa (ty := .int) (N := 1028) C 2 d_init_200 ac_int rfl (C.kn.2 0 _ rfl).2 (fun _ => rfl) (by decide) (by decide) (by decide) (by rw [hR]; exact Nat.le_of_ble_eq_true rfl) (by rw [hR]; exact Nat.le_of_ble_eq_true rfl) (fun q200 => ?_)
  refine a_putA (ty := .array .int) C 0 28 hin d_init_202 rfl rfl rfl (Nat.le_of_ble_eq_true rfl) f_M_91 rfl rfl rfl rfl rfl (ly' := ly_M_22) rfl (Nat.le_of_ble_eq_true rfl) ⟨Nat.le_of_ble_eq_true rfl, Nat.le_of_ble_eq_true rfl⟩ ?_
  refine aw_eq (lo' := _) (st' := _) (L' := [(0, ly_M_22, (o, (va_up (va_up (va_up (va_up (va_up (va_up (va_up (va_up (va_up (va_up (va_up (va_up (va_up (va_up (va_up (va_up (va_up (va_up (va_up (va_up (va_up (va_up (fun _ => 0) 4 q25) 5 q34) 6 q42) 8 q50) 11 q62) 12 q69) 13 q76) 14 q83) 15 q91) 16 q99) 17 q107) 18 q115) 19 q123) 20 q132) 21 q141) 22 q149) 23 q157) 24 q165) 25 q173) 26 q182) 27 q191) 28 q200), (upd (upd (upd (upd (fun _ => 0) 1 8) 2 8) 3 1) 10 (-1)), fun _ _ => 0, fun _ _ => 0))]) rfl rfl rfl ?_
  refine a_aload_n C d_init_205 rfl rfl ?_
  refine a_sipush (v := 8320) C d_init_206 (by decide) ?_
  refine a_newa (ty := .int) (N := 8320) C 2 d_init_209 ac_int rfl (C.kn.2 0 _ rfl).2 (fun _ => rfl) (by decide) (by decide) (by decide) (by rw [hR]; exact Nat.le_of_ble_eq_true rfl) (by rw [hR]; exact Nat.le_of_ble_eq_true rfl) (fun q209 => ?_)
  refine a_putA (ty := .array .int) C 0 29 hin d_init_211 rfl rfl rfl (Nat.le_of_ble_eq_true rfl) f_M_94 rfl rfl rfl rfl rfl (ly' := ly_M_23) rfl (Nat.le_of_ble_eq_true rfl) ⟨Nat.le_of_ble_eq_true rfl, Nat.le_of_ble_eq_true rfl⟩ ?_
  refine aw_eq (lo' := _) (st' := _) (L' := [(0, ly_M_23, (o, (va_up (va_up (va_up (va_up (va_up (va_up (va_up (va_up (va_up (va_up (va_up (va_up (va_up (va_up (va_up (va_up (va_up (va_up (va_up (va_up (va_up (va_up (va_up (fun _ => 0) 4 q25) 5 q34) 6 q42) 8 q50) 11 q62) 12 q69) 13 q76) 14 q83) 15 q91) 16 q99) 17 q107) 18 q115) 19 q123) 20 q132) 21 q141) 22 q149) 23 q157) 24 q165) 25 q173) 26 q182) 27 q191) 28 q200) 29 q209), (upd (upd (upd (upd (fun _ => 0) 1 8) 2 8) 3 1) 10 (-1)), fun _ _ => 0, fun _ _ => 0))]) rfl rfl rfl ?_
  refine a_aload_n C d_init_214 rfl rfl ?_
  refine a_sipush (v := 8320) C d_init_215 (by decide) ?_
  refine a_newa (ty := .int) (N := 8320) C 2 d_init_218 ac_int rfl (C.kn.2 0 _ rfl).2 (fun _ => rfl) (by decide) (by decide) (by decide) (by rw [hR]; exact Nat.le_of_ble_eq_true rfl) (by rw [hR]; exact Nat.le_of_ble_eq_true rfl) (fun q218 => ?_)
  refine a_putA (ty := .array .int) C 0 30 hin d_init_220 rfl rfl rfl (Nat.le_of_ble_eq_true rfl) f_M_97 rfl rfl rfl rfl rfl (ly' := ly_M_24) rfl (Nat.le_of_ble_eq_true rfl) ⟨Nat.le_of_ble_eq_true rfl, Nat.le_of_ble_eq_true rfl⟩ ?_
  refine aw_eq (lo' := _) (st' := _) (L' := [(0, ly_M_24, (o, (va_up (va_up (va_up (va_up (va_up (va_up (va_up (va_up (va_up (va_up (va_up (va_up (va_up (va_up (va_up (va_up (va_up (va_up (va_up (va_up (va_up (va_up (va_up (va_up (fun _ => 0) 4 q25) 5 q34) 6 q42) 8 q50) 11 q62) 12 q69) 13 q76) 14 q83) 15 q91) 16 q99) 17 q107) 18 q115) 19 q123) 20 q132) 21 q141) 22 q149) 23 q157) 24 q165) 25 q173) 26 q182) 27 q191) 28 q200) 29 q209) 30 q218), (upd (upd (upd (upd (fun _ => 0) 1 8) 2 8) 3 1) 10 (-1)), fun _ _ => 0, fun _ _ => 0))]) rfl rfl rfl ?_
  refine a_aload_n C d_init_223 rfl rfl ?_
  refine a_sipush (v := 8320) C d_init_224 (by decide) ?_
  refine a_newa (ty := .int) (N := 8320) C 2 d_init_227 ac_int rfl (C.kn.2 0 _ rfl).2 (fun _ => rfl) (by decide) (by decide) (by decide) (by rw [hR]; exact Nat.le_of_ble_eq_true rfl) (by rw [hR]; exact Nat.le_of_ble_eq_true rfl) (fun q227 => ?_)
  refine a_putA (ty := .array .int) C 0 31 hin d_init_229 rfl rfl rfl (Nat.le_of_ble_eq_true rfl) f_M_100 rfl rfl rfl rfl rfl (ly' := ly_M_25) rfl (Nat.le_of_ble_eq_true rfl) ⟨Nat.le_of_ble_eq_true rfl, Nat.le_of_ble_eq_true rfl⟩ ?_
  refine aw_eq (lo' := _) (st' := _) (L' := [(0, ly_M_25, (o, (va_up (va_up (va_up (va_up (va_up (va_up (va_up (va_up (va_up (va_up (va_up (va_up (va_up (va_up (va_up (va_up (va_up (va_up (va_up (va_up (va_up (va_up (va_up (va_up (va_up (fun _ => 0) 4 q25) 5 q34) 6 q42) 8 q50) 11 q62) 12 q69) 13 q76) 14 q83) 15 q91) 16 q99) 17 q107) 18 q115) 19 q123) 20 q132) 21 q141) 22 q149) 23 q157) 24 q165) 25 q173) 26 q182) 27 q191) 28 q200) 29 q209) 30 q218) 31 q227), (upd (upd (upd (upd (fun _ => 0) 1 8) 2 8) 3 1) 10 (-1)), fun _ _ => 0, fun _ _ => 0))]) rfl rfl rfl ?_
  refine a_aload_n C d_init_232 rfl rfl ?_
  refine a_sipush (v := 256) C d_init_233 (by decide) ?_
  refine a_newa (ty := .int) (N := 256) C 2 d_init_236 ac_int rfl (C.kn.2 0 _ rfl).2 (fun _ => rfl) (by decide) (by decide) (by decide) (by rw [hR]; exact Nat.le_of_ble_eq_true rfl) (by rw [hR]; exact Nat.le_of_ble_eq_true rfl) (fun q236 => ?_)
  refine a_putA (ty := .array .int) C 0 38 hin d_init_238 rfl rfl rfl (Nat.le_of_ble_eq_true rfl) f_M_103 rfl rfl rfl rfl rfl (ly' := ly_M_26) rfl (Nat.le_of_ble_eq_true rfl) ⟨Nat.le_of_ble_eq_true rfl, Nat.le_of_ble_eq_true rfl⟩ ?_
  refine aw_eq (lo' := _) (st' := _) (L' := [(0, ly_M_26, (o, (va_up (va_up (va_up (va_up (va_up (va_up (va_up (va_up (va_up (va_up (va_up (va_up (va_up (va_up (va_up (va_up (va_up (va_up (va_up (va_up (va_up (va_up (va_up (va_up (va_up (va_up (fun _ => 0) 4 q25) 5 q34) 6 q42) 8 q50) 11 q62) 12 q69) 13 q76) 14 q83) 15 q91) 16 q99) 17 q107) 18 q115) 19 q123) 20 q132) 21 q141) 22 q149) 23 q157) 24 q165) 25 q173) 26 q182) 27 q191) 28 q200) 29 q209) 30 q218) 31 q227) 38 q236), (upd (upd (upd (upd (fun _ => 0) 1 8) 2 8) 3 1) 10 (-1)), fun _ _ => 0, fun _ _ => 0))]) rfl rfl rfl ?_
  refine a_aload_n C d_init_241 rfl rfl ?_
  refine a_iconst (v := 4) C d_init_242 (by decide) ?_
  refine a_newa (ty := .boolean) (N := 4) C 3 d_init_243 ac_boolean rfl (C.kn.2 1 _ rfl).2 (fun _ => rfl) (by decide) (by decide) (by decide) (by rw [hR]; exact Nat.le_of_ble_eq_true rfl) (by rw [hR]; exact Nat.le_of_ble_eq_true rfl) (fun q243 => ?_)
  refine a_putA (ty := .array .boolean) C 0 39 hin d_init_245 rfl rfl rfl (Nat.le_of_ble_eq_true rfl) f_M_106 rfl rfl rfl rfl rfl (ly' := ly_M_27) rfl (Nat.le_of_ble_eq_true rfl) ⟨Nat.le_of_ble_eq_true rfl, Nat.le_of_ble_eq_true rfl⟩ ?_
  refine aw_eq (lo' := _) (st' := _) (L' := [(0, ly_M_27, (o, (va_up (va_up (va_up (va_up (va_up (va_up (va_up (va_up (va_up (va_up (va_up (va_up (va_up (va_up (va_up (va_up (va_up (va_up (va_up (va_up (va_up (va_up (va_up (va_up (va_up (va_up (va_up (fun _ => 0) 4 q25) 5 q34) 6 q42) 8 q50) 11 q62) 12 q69) 13 q76) 14 q83) 15 q91) 16 q99) 17 q107) 18 q115) 19 q123) 20 q132) 21 q141) 22 q149) 23 q157) 24 q165) 25 q173) 26 q182) 27 q191) 28 q200) 29 q209) 30 q218) 31 q227) 38 q236) 39 q243), (upd (upd (upd (upd (fun _ => 0) 1 8) 2 8) 3 1) 10 (-1)), fun _ _ => 0, fun _ _ => 0))]) rfl rfl rfl ?_
  refine a_aload_n C d_init_248 rfl rfl ?_
  refine a_bipush (v := 64) C d_init_249 (by decide) ?_
  refine a_newa (ty := .int) (N := 64) C 2 d_init_251 ac_int rfl (C.kn.2 0 _ rfl).2 (fun _ => rfl) (by decide) (by decide) (by decide) (by rw [hR]; exact Nat.le_of_ble_eq_true rfl) (by rw [hR]; exact Nat.le_of_ble_eq_true rfl) (fun q251 => ?_)
  refine a_putA (ty := .array .int) C 0 40 hin d_init_253 rfl rfl rfl (Nat.le_of_ble_eq_true rfl) f_M_109 rfl rfl rfl rfl rfl (ly' := ly_M_28) rfl (Nat.le_of_ble_eq_true rfl) ⟨Nat.le_of_ble_eq_true rfl, Nat.le_of_ble_eq_true rfl⟩ ?_
  refine aw_eq (lo' := _) (st' := _) (L' := [(0, ly_M_28, (o, (va_up (va_up (va_up (va_up (va_up (va_up (va_up (va_up (va_up (va_up (va_up (va_up (va_up (va_up (va_up (va_up (va_up (va_up (va_up (va_up (va_up (va_up (va_up (va_up (va_up (va_up (va_up (va_up (fun _ => 0) 4 q25) 5 q34) 6 q42) 8 q50) 11 q62) 12 q69) 13 q76) 14 q83) 15 q91) 16 q99) 17 q107) 18 q115) 19 q123) 20 q132) 21 q141) 22 q149) 23 q157) 24 q165) 25 q173) 26 q182) 27 q191) 28 q200) 29 q209) 30 q218) 31 q227) 38 q236) 39 q243) 40 q251), (upd (upd (upd (upd (fun _ => 0) 1 8) 2 8) 3 1) 10 (-1)), fun _ _ => 0, fun _ _ => 0))]) rfl rfl rfl ?_
  refine a_aload_n C d_init_256 rfl rfl ?_
  refine a_sipush (v := 1024) C d_init_257 (by decide) ?_
  refine a_newa (ty := .int) (N := 1024) C 2 d_init_260 ac_int rfl (C.kn.2 0 _ rfl).2 (fun _ => rfl) (by decide) (by decide) (by decide) (by rw [hR]; exact Nat.le_of_ble_eq_true rfl) (by rw [hR]; exact Nat.le_of_ble_eq_true rfl) (fun q260 => ?_)
  refine a_putA (ty := .array .int) C 0 41 hin d_init_262 rfl rfl rfl (Nat.le_of_ble_eq_true rfl) f_M_112 rfl rfl rfl rfl rfl (ly' := ly_M_29) rfl (Nat.le_of_ble_eq_true rfl) ⟨Nat.le_of_ble_eq_true rfl, Nat.le_of_ble_eq_true rfl⟩ ?_
  refine aw_eq (lo' := _) (st' := _) (L' := [(0, ly_M_29, (o, (va_up (va_up (va_up (va_up (va_up (va_up (va_up (va_up (va_up (va_up (va_up (va_up (va_up (va_up (va_up (va_up (va_up (va_up (va_up (va_up (va_up (va_up (va_up (va_up (va_up (va_up (va_up (va_up (va_up (fun _ => 0) 4 q25) 5 q34) 6 q42) 8 q50) 11 q62) 12 q69) 13 q76) 14 q83) 15 q91) 16 q99) 17 q107) 18 q115) 19 q123) 20 q132) 21 q141) 22 q149) 23 q157) 24 q165) 25 q173) 26 q182) 27 q191) 28 q200) 29 q209) 30 q218) 31 q227) 38 q236) 39 q243) 40 q251) 41 q260), (upd (upd (upd (upd (fun _ => 0) 1 8) 2 8) 3 1) 10 (-1)), fun _ _ => 0, fun _ _ => 0))]) rfl rfl rfl ?_
  refine a_aload_n C d_init_265 rfl rfl ?_
  refine a_iconst (v := 4) C d_init_266 (by decide) ?_
  refine a_newa (ty := .boolean) (N := 4) C 3 d_init_267 ac_boolean rfl (C.kn.2 1 _ rfl).2 (fun _ => rfl) (by decide) (by decide) (by decide) (by rw [hR]; exact Nat.le_of_ble_eq_true rfl) (by rw [hR]; exact Nat.le_of_ble_eq_true rfl) (fun q267 => ?_)
  refine a_putA (ty := .array .boolean) C 0 42 hin d_init_269 rfl rfl rfl (Nat.le_of_ble_eq_true rfl) f_M_115 rfl rfl rfl rfl rfl (ly' := ly_M_30) rfl (Nat.le_of_ble_eq_true rfl) ⟨Nat.le_of_ble_eq_true rfl, Nat.le_of_ble_eq_true rfl⟩ ?_
  refine aw_eq (lo' := _) (st' := _) (L' := [(0, ly_M_30, (o, (va_up (va_up (va_up (va_up (va_up (va_up (va_up (va_up (va_up (va_up (va_up (va_up (va_up (va_up (va_up (va_up (va_up (va_up (va_up (va_up (va_up (va_up (va_up (va_up (va_up (va_up (va_up (va_up (va_up (va_up (fun _ => 0) 4 q25) 5 q34) 6 q42) 8 q50) 11 q62) 12 q69) 13 q76) 14 q83) 15 q91) 16 q99) 17 q107) 18 q115) 19 q123) 20 q132) 21 q141) 22 q149) 23 q157) 24 q165) 25 q173) 26 q182) 27 q191) 28 q200) 29 q209) 30 q218) 31 q227) 38 q236) 39 q243) 40 q251) 41 q260) 42 q267), (upd (upd (upd (upd (fun _ => 0) 1 8) 2 8) 3 1) 10 (-1)), fun _ _ => 0, fun _ _ => 0))]) rfl rfl rfl ?_
  refine a_aload_n C d_init_272 rfl rfl ?_
  refine a_iconst (v := 3) C d_init_273 (by decide) ?_
  refine a_newa (ty := .int) (N := 3) C 2 d_init_274 ac_int rfl (C.kn.2 0 _ rfl).2 (fun _ => rfl) (by decide) (by decide) (by decide) (by rw [hR]; exact Nat.le_of_ble_eq_true rfl) (by rw [hR]; exact Nat.le_of_ble_eq_true rfl) (fun q274 => ?_)
  refine a_putA (ty := .array .int) C 0 44 hin d_init_276 rfl rfl rfl (Nat.le_of_ble_eq_true rfl) f_M_118 rfl rfl rfl rfl rfl (ly' := ly_M_31) rfl (Nat.le_of_ble_eq_true rfl) ⟨Nat.le_of_ble_eq_true rfl, Nat.le_of_ble_eq_true rfl⟩ ?_
  refine aw_eq (lo' := _) (st' := _) (L' := [(0, ly_M_31, (o, (va_up (va_up (va_up (va_up (va_up (va_up (va_up (va_up (va_up (va_up (va_up (va_up (va_up (va_up (va_up (va_up (va_up (va_up (va_up (va_up (va_up (va_up (va_up (va_up (va_up (va_up (va_up (va_up (va_up (va_up (va_up (fun _ => 0) 4 q25) 5 q34) 6 q42) 8 q50) 11 q62) 12 q69) 13 q76) 14 q83) 15 q91) 16 q99) 17 q107) 18 q115) 19 q123) 20 q132) 21 q141) 22 q149) 23 q157) 24 q165) 25 q173) 26 q182) 27 q191) 28 q200) 29 q209) 30 q218) 31 q227) 38 q236) 39 q243) 40 q251) 41 q260) 42 q267) 44 q274), (upd (upd (upd (upd (fun _ => 0) 1 8) 2 8) 3 1) 10 (-1)), fun _ _ => 0, fun _ _ => 0))]) rfl rfl rfl ?_
  refine a_aload_n C d_init_279 rfl rfl ?_
  refine a_iconst (v := 3) C d_init_280 (by decide) ?_
  refine a_newa (ty := .int) (N := 3) C 2 d_init_281 ac_int rfl (C.kn.2 0 _ rfl).2 (fun _ => rfl) (by decide) (by decide) (by decide) (by rw [hR]; exact Nat.le_of_ble_eq_true rfl) (by rw [hR]; exact Nat.le_of_ble_eq_true rfl) (fun q281 => ?_)
  refine a_putA (ty := .array .int) C 0 45 hin d_init_283 rfl rfl rfl (Nat.le_of_ble_eq_true rfl) f_M_121 rfl rfl rfl rfl rfl (ly' := ly_M_32) rfl (Nat.le_of_ble_eq_true rfl) ⟨Nat.le_of_ble_eq_true rfl, Nat.le_of_ble_eq_true rfl⟩ ?_
  refine aw_eq (lo' := _) (st' := _) (L' := [(0, ly_M_32, (o, (va_up (va_up (va_up (va_up (va_up (va_up (va_up (va_up (va_up (va_up (va_up (va_up (va_up (va_up (va_up (va_up (va_up (va_up (va_up (va_up (va_up (va_up (va_up (va_up (va_up (va_up (va_up (va_up (va_up (va_up (va_up (va_up (fun _ => 0) 4 q25) 5 q34) 6 q42) 8 q50) 11 q62) 12 q69) 13 q76) 14 q83) 15 q91) 16 q99) 17 q107) 18 q115) 19 q123) 20 q132) 21 q141) 22 q149) 23 q157) 24 q165) 25 q173) 26 q182) 27 q191) 28 q200) 29 q209) 30 q218) 31 q227) 38 q236) 39 q243) 40 q251) 41 q260) 42 q267) 44 q274) 45 q281), (upd (upd (upd (upd (fun _ => 0) 1 8) 2 8) 3 1) 10 (-1)), fun _ _ => 0, fun _ _ => 0))]) rfl rfl rfl ?_
  refine a_aload_n C d_init_286 rfl rfl ?_
  refine a_sipush (v := 192) C d_init_287 (by decide) ?_
  refine a_newa (ty := .int) (N := 192) C 2 d_init_290 ac_int rfl (C.kn.2 0 _ rfl).2 (fun _ => rfl) (by decide) (by decide) (by decide) (by rw [hR]; exact Nat.le_of_ble_eq_true rfl) (by rw [hR]; exact Nat.le_of_ble_eq_true rfl) (fun q290 => ?_)
  refine a_putA (ty := .array .int) C 0 46 hin d_init_292 rfl rfl rfl (Nat.le_of_ble_eq_true rfl) f_M_124 rfl rfl rfl rfl rfl (ly' := ly_M_33) rfl (Nat.le_of_ble_eq_true rfl) ⟨Nat.le_of_ble_eq_true rfl, Nat.le_of_ble_eq_true rfl⟩ ?_
  refine aw_eq (lo' := _) (st' := _) (L' := [(0, ly_M_33, (o, (va_up (va_up (va_up (va_up (va_up (va_up (va_up (va_up (va_up (va_up (va_up (va_up (va_up (va_up (va_up (va_up (va_up (va_up (va_up (va_up (va_up (va_up (va_up (va_up (va_up (va_up (va_up (va_up (va_up (va_up (va_up (va_up (va_up (fun _ => 0) 4 q25) 5 q34) 6 q42) 8 q50) 11 q62) 12 q69) 13 q76) 14 q83) 15 q91) 16 q99) 17 q107) 18 q115) 19 q123) 20 q132) 21 q141) 22 q149) 23 q157) 24 q165) 25 q173) 26 q182) 27 q191) 28 q200) 29 q209) 30 q218) 31 q227) 38 q236) 39 q243) 40 q251) 41 q260) 42 q267) 44 q274) 45 q281) 46 q290), (upd (upd (upd (upd (fun _ => 0) 1 8) 2 8) 3 1) 10 (-1)), fun _ _ => 0, fun _ _ => 0))]) rfl rfl rfl ?_
  refine a_aload_n C d_init_295 rfl rfl ?_
  refine a_iconst (v := 3) C d_init_296 (by decide) ?_
  refine a_newa (ty := .boolean) (N := 3) C 3 d_init_297 ac_boolean rfl (C.kn.2 1 _ rfl).2 (fun _ => rfl) (by decide) (by decide) (by decide) (by rw [hR]; exact Nat.le_of_ble_eq_true rfl) (by rw [hR]; exact Nat.le_of_ble_eq_true rfl) (fun q297 => ?_)
  refine a_putA (ty := .array .boolean) C 0 47 hin d_init_299 rfl rfl rfl (Nat.le_of_ble_eq_true rfl) f_M_127 rfl rfl rfl rfl rfl (ly' := ly_M_34) rfl (Nat.le_of_ble_eq_true rfl) ⟨Nat.le_of_ble_eq_true rfl, Nat.le_of_ble_eq_true rfl⟩ ?_
  refine aw_eq (lo' := _) (st' := _) (L' := [(0, ly_M_34, (o, (va_up (va_up (va_up (va_up (va_up (va_up (va_up (va_up (va_up (va_up (va_up (va_up (va_up (va_up (va_up (va_up (va_up (va_up (va_up (va_up (va_up (va_up (va_up (va_up (va_up (va_up (va_up (va_up (va_up (va_up (va_up (va_up (va_up (va_up (fun _ => 0) 4 q25) 5 q34) 6 q42) 8 q50) 11 q62) 12 q69) 13 q76) 14 q83) 15 q91) 16 q99) 17 q107) 18 q115) 19 q123) 20 q132) 21 q141) 22 q149) 23 q157) 24 q165) 25 q173) 26 q182) 27 q191) 28 q200) 29 q209) 30 q218) 31 q227) 38 q236) 39 q243) 40 q251) 41 q260) 42 q267) 44 q274) 45 q281) 46 q290) 47 q297), (upd (upd (upd (upd (fun _ => 0) 1 8) 2 8) 3 1) 10 (-1)), fun _ _ => 0, fun _ _ => 0))]) rfl rfl rfl ?_
  refine a_aload_n C d_init_302 rfl rfl ?_
  refine a_iconst (v := 3) C d_init_303 (by decide) ?_
  refine a_newa (ty := .int) (N := 3) C 2 d_init_304 ac_int rfl (C.kn.2 0 _ rfl).2 (fun _ => rfl) (by decide) (by decide) (by decide) (by rw [hR]; exact Nat.le_of_ble_eq_true rfl) (by rw [hR]; exact Nat.le_of_ble_eq_true rfl) (fun q304 => ?_)
  refine a_putA (ty := .array .int) C 0 50 hin d_init_306 rfl rfl rfl (Nat.le_of_ble_eq_true rfl) f_M_130 rfl rfl rfl rfl rfl (ly' := ly_M_35) rfl (Nat.le_of_ble_eq_true rfl) ⟨Nat.le_of_ble_eq_true rfl, Nat.le_of_ble_eq_true rfl⟩ ?_
  refine aw_eq (lo' := _) (st' := _) (L' := [(0, ly_M_35, (o, (va_up (va_up (va_up (va_up (va_up (va_up (va_up (va_up (va_up (va_up (va_up (va_up (va_up (va_up (va_up (va_up (va_up (va_up (va_up (va_up (va_up (va_up (va_up (va_up (va_up (va_up (va_up (va_up (va_up (va_up (va_up (va_up (va_up (va_up (va_up (fun _ => 0) 4 q25) 5 q34) 6 q42) 8 q50) 11 q62) 12 q69) 13 q76) 14 q83) 15 q91) 16 q99) 17 q107) 18 q115) 19 q123) 20 q132) 21 q141) 22 q149) 23 q157) 24 q165) 25 q173) 26 q182) 27 q191) 28 q200) 29 q209) 30 q218) 31 q227) 38 q236) 39 q243) 40 q251) 41 q260) 42 q267) 44 q274) 45 q281) 46 q290) 47 q297) 50 q304), (upd (upd (upd (upd (fun _ => 0) 1 8) 2 8) 3 1) 10 (-1)), fun _ _ => 0, fun _ _ => 0))]) rfl rfl rfl ?_
  refine a_aload_n C d_init_309 rfl rfl ?_
  refine a_iconst (v := 3) C d_init_310 (by decide) ?_
  refine a_newa (ty := .int) (N := 3) C 2 d_init_311 ac_int rfl (C.kn.2 0 _ rfl).2 (fun _ => rfl) (by decide) (by decide) (by decide) (by rw [hR]; exact Nat.le_of_ble_eq_true rfl) (by rw [hR]; exact Nat.le_of_ble_eq_true rfl) (fun q311 => ?_)
  refine a_putA (ty := .array .int) C 0 51 hin d_init_313 rfl rfl rfl (Nat.le_of_ble_eq_true rfl) f_M_133 rfl rfl rfl rfl rfl (ly' := ly_M_36) rfl (Nat.le_of_ble_eq_true rfl) ⟨Nat.le_of_ble_eq_true rfl, Nat.le_of_ble_eq_true rfl⟩ ?_
  refine aw_eq (lo' := _) (st' := _) (L' := [(0, ly_M_36, (o, (va_up (va_up (va_up (va_up (va_up (va_up (va_up (va_up (va_up (va_up (va_up (va_up (va_up (va_up (va_up (va_up (va_up (va_up (va_up (va_up (va_up (va_up (va_up (va_up (va_up (va_up (va_up (va_up (va_up (va_up (va_up (va_up (va_up (va_up (va_up (va_up (fun _ => 0) 4 q25) 5 q34) 6 q42) 8 q50) 11 q62) 12 q69) 13 q76) 14 q83) 15 q91) 16 q99) 17 q107) 18 q115) 19 q123) 20 q132) 21 q141) 22 q149) 23 q157) 24 q165) 25 q173) 26 q182) 27 q191) 28 q200) 29 q209) 30 q218) 31 q227) 38 q236) 39 q243) 40 q251) 41 q260) 42 q267) 44 q274) 45 q281) 46 q290) 47 q297) 50 q304) 51 q311), (upd (upd (upd (upd (fun _ => 0) 1 8) 2 8) 3 1) 10 (-1)), fun _ _ => 0, fun _ _ => 0))]) rfl rfl rfl ?_
  refine a_aload_n C d_init_316 rfl rfl ?_
  refine a_iconst (v := 3) C d_init_317 (by decide) ?_
  refine a_newa (ty := .int) (N := 3) C 2 d_init_318 ac_int rfl (C.kn.2 0 _ rfl).2 (fun _ => rfl) (by decide) (by decide) (by decide) (by rw [hR]; exact Nat.le_of_ble_eq_true rfl) (by rw [hR]; exact Nat.le_of_ble_eq_true rfl) (fun q318 => ?_)
  refine a_putA (ty := .array .int) C 0 52 hin d_init_320 rfl rfl rfl (Nat.le_of_ble_eq_true rfl) f_M_136 rfl rfl rfl rfl rfl (ly' := ly_M_37) rfl (Nat.le_of_ble_eq_true rfl) ⟨Nat.le_of_ble_eq_true rfl, Nat.le_of_ble_eq_true rfl⟩ ?_
  refine aw_eq (lo' := _) (st' := _) (L' := [(0, ly_M_37, (o, (va_up (va_up (va_up (va_up (va_up (va_up (va_up (va_up (va_up (va_up (va_up (va_up (va_up (va_up (va_up (va_up (va_up (va_up (va_up (va_up (va_up (va_up (va_up (va_up (va_up (va_up (va_up (va_up (va_up (va_up (va_up (va_up (va_up (va_up (va_up (va_up (va_up (fun _ => 0) 4 q25) 5 q34) 6 q42) 8 q50) 11 q62) 12 q69) 13 q76) 14 q83) 15 q91) 16 q99) 17 q107) 18 q115) 19 q123) 20 q132) 21 q141) 22 q149) 23 q157) 24 q165) 25 q173) 26 q182) 27 q191) 28 q200) 29 q209) 30 q218) 31 q227) 38 q236) 39 q243) 40 q251) 41 q260) 42 q267) 44 q274) 45 q281) 46 q290) 47 q297) 50 q304) 51 q311) 52 q318), (upd (upd (upd (upd (fun _ => 0) 1 8) 2 8) 3 1) 10 (-1)), fun _ _ => 0, fun _ _ => 0))]) rfl rfl rfl ?_
  refine a_aload_n C d_init_323 rfl rfl ?_
  refine a_iconst (v := 3) C d_init_324 (by decide) ?_
  refine a_newa (ty := .int) (N := 3) C 2 d_init_325 ac_int rfl (C.kn.2 0 _ rfl).2 (fun _ => rfl) (by decide) (by decide) (by decide) (by rw [hR]; exact Nat.le_of_ble_eq_true rfl) (by rw [hR]; exact Nat.le_of_ble_eq_true rfl) (fun q325 => ?_)
  refine a_putA (ty := .array .int) C 0 53 hin d_init_327 rfl rfl rfl (Nat.le_of_ble_eq_true rfl) f_M_139 rfl rfl rfl rfl rfl (ly' := ly_M_38) rfl (Nat.le_of_ble_eq_true rfl) ⟨Nat.le_of_ble_eq_true rfl, Nat.le_of_ble_eq_true rfl⟩ ?_
  refine aw_eq (lo' := _) (st' := _) (L' := [(0, ly_M_38, (o, (va_up (va_up (va_up (va_up (va_up (va_up (va_up (va_up (va_up (va_up (va_up (va_up (va_up (va_up (va_up (va_up (va_up (va_up (va_up (va_up (va_up (va_up (va_up (va_up (va_up (va_up (va_up (va_up (va_up (va_up (va_up (va_up (va_up (va_up (va_up (va_up (va_up (va_up (fun _ => 0) 4 q25) 5 q34) 6 q42) 8 q50) 11 q62) 12 q69) 13 q76) 14 q83) 15 q91) 16 q99) 17 q107) 18 q115) 19 q123) 20 q132) 21 q141) 22 q149) 23 q157) 24 q165) 25 q173) 26 q182) 27 q191) 28 q200) 29 q209) 30 q218) 31 q227) 38 q236) 39 q243) 40 q251) 41 q260) 42 q267) 44 q274) 45 q281) 46 q290) 47 q297) 50 q304) 51 q311) 52 q318) 53 q325), (upd (upd (upd (upd (fun _ => 0) 1 8) 2 8) 3 1) 10 (-1)), fun _ _ => 0, fun _ _ => 0))]) rfl rfl rfl ?_
  refine aw_eq (lo' := _) (st' := _) (L' := [(0, ly_M, (o, (va_up (va_up (va_up (va_up (va_up (va_up (va_up (va_up (va_up (va_up (va_up (va_up (va_up (va_up (va_up (va_up (va_up (va_up (va_up (va_up (va_up (va_up (va_up (va_up (va_up (va_up (va_up (va_up (va_up (va_up (va_up (va_up (va_up (va_up (va_up (va_up (va_up (va_up (fun _ => 0) 4 q25) 5 q34) 6 q42) 8 q50) 11 q62) 12 q69) 13 q76) 14 q83) 15 q91) 16 q99) 17 q107) 18 q115) 19 q123) 20 q132) 21 q141) 22 q149) 23 q157) 24 q165) 25 q173) 26 q182) 27 q191) 28 q200) 29 q209) 30 q218) 31 q227) 38 q236) 39 q243) 40 q251) 41 q260) 42 q267) 44 q274) 45 q281) 46 q290) 47 q297) 50 q304) 51 q311) 52 q318) 53 q325), (upd (upd (upd (upd (fun _ => 0) 1 8) 2 8) 3 1) 10 (-1)), fun _ _ => 0, fun _ _ => 0))]) rfl rfl rfl ?_
  refine aw_widen (nc' := 38) (ns' := 193881) (Nat.le_of_ble_eq_true rfl) (Nat.le_of_ble_eq_true rfl) ?_
  exact s_init_330 C hQ hA hR ((upd (upd (upd (upd (fun _ => 0) 1 8) 2 8) 3 1) 10 (-1)), fun _ _ => 0, fun _ _ => 0) hp
end M_initc

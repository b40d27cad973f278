theorem d_readFrame_0 : decode c_M_readFrame 0 = .ok (.aload_n 0, 1) := by decide +kernel
theorem d_readFrame_1 : decode c_M_readFrame 1 = .ok (.invokevirtual 281, 3) := by decide +kernel
theorem d_readFrame_4 : decode c_M_readFrame 4 = .ok (.istore_n 1, 1) := by decide +kernel
theorem d_readFrame_5 : decode c_M_readFrame 5 = .ok (.aload_n 0, 1) := by decide +kernel
theorem d_readFrame_6 : decode c_M_readFrame 6 = .ok (.iload_n 1, 1) := by decide +kernel
theorem d_readFrame_7 : decode c_M_readFrame 7 = .ok (.bipush 8, 2) := by decide +kernel
theorem d_readFrame_9 : decode c_M_readFrame 9 = .ok (.if_icmp .ne 7, 3) := by decide +kernel
theorem d_readFrame_12 : decode c_M_readFrame 12 = .ok (.iconst 1, 1) := by decide +kernel
theorem d_readFrame_13 : decode c_M_readFrame 13 = .ok (.goto 4, 3) := by decide +kernel
theorem d_readFrame_16 : decode c_M_readFrame 16 = .ok (.iconst 0, 1) := by decide +kernel
theorem d_readFrame_17 : decode c_M_readFrame 17 = .ok (.aload_n 0, 1) := by decide +kernel
theorem d_readFrame_18 : decode c_M_readFrame 18 = .ok (.getfield 268, 3) := by decide +kernel
theorem d_readFrame_21 : decode c_M_readFrame 21 = .ok (.iconst 1, 1) := by decide +kernel
theorem d_readFrame_22 : decode c_M_readFrame 22 = .ok (.isub, 1) := by decide +kernel
theorem d_readFrame_23 : decode c_M_readFrame 23 = .ok (.invokevirtual 291, 3) := by decide +kernel
theorem d_readFrame_26 : decode c_M_readFrame 26 = .ok (.aload_n 0, 1) := by decide +kernel
theorem d_readFrame_27 : decode c_M_readFrame 27 = .ok (.getfield 265, 3) := by decide +kernel
theorem d_readFrame_30 : decode c_M_readFrame 30 = .ok (.ifCond .ne 10, 3) := by decide +kernel
theorem d_readFrame_33 : decode c_M_readFrame 33 = .ok (.aload_n 0, 1) := by decide +kernel
theorem d_readFrame_34 : decode c_M_readFrame 34 = .ok (.invokevirtual 285, 3) := by decide +kernel
theorem d_readFrame_37 : decode c_M_readFrame 37 = .ok (.goto 4, 3) := by decide +kernel
theorem d_readFrame_40 : decode c_M_readFrame 40 = .ok (.iconst 0, 1) := by decide +kernel
theorem d_readFrame_41 : decode c_M_readFrame 41 = .ok (.istore_n 2, 1) := by decide +kernel
theorem d_readFrame_42 : decode c_M_readFrame 42 = .ok (.aload_n 0, 1) := by decide +kernel
theorem d_readFrame_43 : decode c_M_readFrame 43 = .ok (.iload_n 2, 1) := by decide +kernel
theorem d_readFrame_44 : decode c_M_readFrame 44 = .ok (.ifCond .le 13, 3) := by decide +kernel
theorem d_readFrame_47 : decode c_M_readFrame 47 = .ok (.iload_n 2, 1) := by decide +kernel
theorem d_readFrame_48 : decode c_M_readFrame 48 = .ok (.bipush 65, 2) := by decide +kernel
theorem d_readFrame_50 : decode c_M_readFrame 50 = .ok (.if_icmp .ge 7, 3) := by decide +kernel
theorem d_readFrame_53 : decode c_M_readFrame 53 = .ok (.iconst 1, 1) := by decide +kernel
theorem d_readFrame_54 : decode c_M_readFrame 54 = .ok (.goto 4, 3) := by decide +kernel
theorem d_readFrame_57 : decode c_M_readFrame 57 = .ok (.iconst 0, 1) := by decide +kernel
theorem d_readFrame_58 : decode c_M_readFrame 58 = .ok (.aload_n 0, 1) := by decide +kernel
theorem d_readFrame_59 : decode c_M_readFrame 59 = .ok (.getfield 268, 3) := by decide +kernel
theorem d_readFrame_62 : decode c_M_readFrame 62 = .ok (.iconst 2, 1) := by decide +kernel
theorem d_readFrame_63 : decode c_M_readFrame 63 = .ok (.isub, 1) := by decide +kernel
theorem d_readFrame_64 : decode c_M_readFrame 64 = .ok (.invokevirtual 291, 3) := by decide +kernel
theorem d_readFrame_67 : decode c_M_readFrame 67 = .ok (.aload_n 0, 1) := by decide +kernel
theorem d_readFrame_68 : decode c_M_readFrame 68 = .ok (.getfield 265, 3) := by decide +kernel
theorem d_readFrame_71 : decode c_M_readFrame 71 = .ok (.ifCond .ne 10, 3) := by decide +kernel
theorem d_readFrame_74 : decode c_M_readFrame 74 = .ok (.aload_n 0, 1) := by decide +kernel
theorem d_readFrame_75 : decode c_M_readFrame 75 = .ok (.invokevirtual 285, 3) := by decide +kernel
theorem d_readFrame_78 : decode c_M_readFrame 78 = .ok (.goto 4, 3) := by decide +kernel
theorem d_readFrame_81 : decode c_M_readFrame 81 = .ok (.iconst 0, 1) := by decide +kernel
theorem d_readFrame_82 : decode c_M_readFrame 82 = .ok (.istore_n 3, 1) := by decide +kernel
theorem d_readFrame_83 : decode c_M_readFrame 83 = .ok (.aload_n 0, 1) := by decide +kernel
theorem d_readFrame_84 : decode c_M_readFrame 84 = .ok (.iload_n 3, 1) := by decide +kernel
theorem d_readFrame_85 : decode c_M_readFrame 85 = .ok (.ifCond .le 13, 3) := by decide +kernel
theorem d_readFrame_88 : decode c_M_readFrame 88 = .ok (.iload_n 3, 1) := by decide +kernel
theorem d_readFrame_89 : decode c_M_readFrame 89 = .ok (.bipush 65, 2) := by decide +kernel
theorem d_readFrame_91 : decode c_M_readFrame 91 = .ok (.if_icmp .ge 7, 3) := by decide +kernel
theorem d_readFrame_94 : decode c_M_readFrame 94 = .ok (.iconst 1, 1) := by decide +kernel
theorem d_readFrame_95 : decode c_M_readFrame 95 = .ok (.goto 4, 3) := by decide +kernel
theorem d_readFrame_98 : decode c_M_readFrame 98 = .ok (.iconst 0, 1) := by decide +kernel
theorem d_readFrame_99 : decode c_M_readFrame 99 = .ok (.aload_n 0, 1) := by decide +kernel
theorem d_readFrame_100 : decode c_M_readFrame 100 = .ok (.getfield 268, 3) := by decide +kernel
theorem d_readFrame_103 : decode c_M_readFrame 103 = .ok (.iconst 2, 1) := by decide +kernel
theorem d_readFrame_104 : decode c_M_readFrame 104 = .ok (.isub, 1) := by decide +kernel
theorem d_readFrame_105 : decode c_M_readFrame 105 = .ok (.invokevirtual 291, 3) := by decide +kernel
theorem d_readFrame_108 : decode c_M_readFrame 108 = .ok (.aload_n 0, 1) := by decide +kernel
theorem d_readFrame_109 : decode c_M_readFrame 109 = .ok (.getfield 265, 3) := by decide +kernel
theorem d_readFrame_112 : decode c_M_readFrame 112 = .ok (.ifCond .ne 10, 3) := by decide +kernel
theorem d_readFrame_115 : decode c_M_readFrame 115 = .ok (.aload_n 0, 1) := by decide +kernel
theorem d_readFrame_116 : decode c_M_readFrame 116 = .ok (.invokevirtual 281, 3) := by decide +kernel
theorem d_readFrame_119 : decode c_M_readFrame 119 = .ok (.goto 4, 3) := by decide +kernel
theorem d_readFrame_122 : decode c_M_readFrame 122 = .ok (.iconst 0, 1) := by decide +kernel
theorem d_readFrame_123 : decode c_M_readFrame 123 = .ok (.istore 4, 2) := by decide +kernel
theorem d_readFrame_125 : decode c_M_readFrame 125 = .ok (.aload_n 0, 1) := by decide +kernel
theorem d_readFrame_126 : decode c_M_readFrame 126 = .ok (.iload 4, 2) := by decide +kernel
theorem d_readFrame_128 : decode c_M_readFrame 128 = .ok (.iconst 1, 1) := by decide +kernel
theorem d_readFrame_129 : decode c_M_readFrame 129 = .ok (.if_icmp .eq 9, 3) := by decide +kernel
theorem d_readFrame_132 : decode c_M_readFrame 132 = .ok (.iload 4, 2) := by decide +kernel
theorem d_readFrame_134 : decode c_M_readFrame 134 = .ok (.iconst 3, 1) := by decide +kernel
theorem d_readFrame_135 : decode c_M_readFrame 135 = .ok (.if_icmp .ne 7, 3) := by decide +kernel
theorem d_readFrame_138 : decode c_M_readFrame 138 = .ok (.iconst 1, 1) := by decide +kernel
theorem d_readFrame_139 : decode c_M_readFrame 139 = .ok (.goto 4, 3) := by decide +kernel
theorem d_readFrame_142 : decode c_M_readFrame 142 = .ok (.iconst 0, 1) := by decide +kernel
theorem d_readFrame_143 : decode c_M_readFrame 143 = .ok (.aload_n 0, 1) := by decide +kernel
theorem d_readFrame_144 : decode c_M_readFrame 144 = .ok (.getfield 268, 3) := by decide +kernel
theorem d_readFrame_147 : decode c_M_readFrame 147 = .ok (.iconst 1, 1) := by decide +kernel
theorem d_readFrame_148 : decode c_M_readFrame 148 = .ok (.isub, 1) := by decide +kernel
theorem d_readFrame_149 : decode c_M_readFrame 149 = .ok (.invokevirtual 291, 3) := by decide +kernel
theorem d_readFrame_152 : decode c_M_readFrame 152 = .ok (.aload_n 0, 1) := by decide +kernel
theorem d_readFrame_153 : decode c_M_readFrame 153 = .ok (.getfield 265, 3) := by decide +kernel
theorem d_readFrame_156 : decode c_M_readFrame 156 = .ok (.ifCond .ne 33, 3) := by decide +kernel
theorem d_readFrame_159 : decode c_M_readFrame 159 = .ok (.aload_n 0, 1) := by decide +kernel
theorem d_readFrame_160 : decode c_M_readFrame 160 = .ok (.getfield 275, 3) := by decide +kernel
theorem d_readFrame_163 : decode c_M_readFrame 163 = .ok (.aload_n 0, 1) := by decide +kernel
theorem d_readFrame_164 : decode c_M_readFrame 164 = .ok (.getfield 278, 3) := by decide +kernel
theorem d_readFrame_167 : decode c_M_readFrame 167 = .ok (.isub, 1) := by decide +kernel
theorem d_readFrame_168 : decode c_M_readFrame 168 = .ok (.bipush 8, 2) := by decide +kernel
theorem d_readFrame_170 : decode c_M_readFrame 170 = .ok (.iconst 3, 1) := by decide +kernel
theorem d_readFrame_171 : decode c_M_readFrame 171 = .ok (.iload 4, 2) := by decide +kernel
theorem d_readFrame_173 : decode c_M_readFrame 173 = .ok (.imul, 1) := by decide +kernel
theorem d_readFrame_174 : decode c_M_readFrame 174 = .ok (.iadd, 1) := by decide +kernel
theorem d_readFrame_175 : decode c_M_readFrame 175 = .ok (.if_icmp .eq 14, 3) := by decide +kernel
theorem d_readFrame_178 : decode c_M_readFrame 178 = .ok (.aload_n 0, 1) := by decide +kernel
theorem d_readFrame_179 : decode c_M_readFrame 179 = .ok (.iconst 4, 1) := by decide +kernel
theorem d_readFrame_180 : decode c_M_readFrame 180 = .ok (.aload_n 0, 1) := by decide +kernel
theorem d_readFrame_181 : decode c_M_readFrame 181 = .ok (.getfield 278, 3) := by decide +kernel
theorem d_readFrame_184 : decode c_M_readFrame 184 = .ok (.invokevirtual 271, 3) := by decide +kernel
theorem d_readFrame_187 : decode c_M_readFrame 187 = .ok (.istore 5, 2) := by decide +kernel
theorem d_readFrame_189 : decode c_M_readFrame 189 = .ok (.iconst 0, 1) := by decide +kernel
theorem d_readFrame_190 : decode c_M_readFrame 190 = .ok (.istore 5, 2) := by decide +kernel
theorem d_readFrame_192 : decode c_M_readFrame 192 = .ok (.iload 5, 2) := by decide +kernel
theorem d_readFrame_194 : decode c_M_readFrame 194 = .ok (.iload 4, 2) := by decide +kernel
theorem d_readFrame_196 : decode c_M_readFrame 196 = .ok (.if_icmp .ge 230, 3) := by decide +kernel
theorem d_readFrame_199 : decode c_M_readFrame 199 = .ok (.aload_n 0, 1) := by decide +kernel
theorem d_readFrame_200 : decode c_M_readFrame 200 = .ok (.getfield 265, 3) := by decide +kernel
theorem d_readFrame_203 : decode c_M_readFrame 203 = .ok (.ifCond .ne 223, 3) := by decide +kernel
theorem d_readFrame_206 : decode c_M_readFrame 206 = .ok (.aload_n 0, 1) := by decide +kernel
theorem d_readFrame_207 : decode c_M_readFrame 207 = .ok (.getfield 118, 3) := by decide +kernel
theorem d_readFrame_210 : decode c_M_readFrame 210 = .ok (.iload 5, 2) := by decide +kernel
theorem d_readFrame_212 : decode c_M_readFrame 212 = .ok (.aload_n 0, 1) := by decide +kernel
theorem d_readFrame_213 : decode c_M_readFrame 213 = .ok (.invokevirtual 281, 3) := by decide +kernel
theorem d_readFrame_216 : decode c_M_readFrame 216 = .ok (.iastore, 1) := by decide +kernel
theorem d_readFrame_217 : decode c_M_readFrame 217 = .ok (.iconst 1, 1) := by decide +kernel
theorem d_readFrame_218 : decode c_M_readFrame 218 = .ok (.istore 6, 2) := by decide +kernel
theorem d_readFrame_220 : decode c_M_readFrame 220 = .ok (.iconst 0, 1) := by decide +kernel
theorem d_readFrame_221 : decode c_M_readFrame 221 = .ok (.istore 7, 2) := by decide +kernel
theorem d_readFrame_223 : decode c_M_readFrame 223 = .ok (.iload 7, 2) := by decide +kernel
theorem d_readFrame_225 : decode c_M_readFrame 225 = .ok (.iload 5, 2) := by decide +kernel
theorem d_readFrame_227 : decode c_M_readFrame 227 = .ok (.if_icmp .ge 38, 3) := by decide +kernel
theorem d_readFrame_230 : decode c_M_readFrame 230 = .ok (.iload 6, 2) := by decide +kernel
theorem d_readFrame_232 : decode c_M_readFrame 232 = .ok (.ifCond .eq 24, 3) := by decide +kernel
theorem d_readFrame_235 : decode c_M_readFrame 235 = .ok (.aload_n 0, 1) := by decide +kernel
theorem d_readFrame_236 : decode c_M_readFrame 236 = .ok (.getfield 118, 3) := by decide +kernel
theorem d_readFrame_239 : decode c_M_readFrame 239 = .ok (.iload 7, 2) := by decide +kernel
theorem d_readFrame_241 : decode c_M_readFrame 241 = .ok (.iaload, 1) := by decide +kernel
theorem d_readFrame_242 : decode c_M_readFrame 242 = .ok (.aload_n 0, 1) := by decide +kernel
theorem d_readFrame_243 : decode c_M_readFrame 243 = .ok (.getfield 118, 3) := by decide +kernel
theorem d_readFrame_246 : decode c_M_readFrame 246 = .ok (.iload 5, 2) := by decide +kernel
theorem d_readFrame_248 : decode c_M_readFrame 248 = .ok (.iaload, 1) := by decide +kernel
theorem d_readFrame_249 : decode c_M_readFrame 249 = .ok (.if_icmp .eq 7, 3) := by decide +kernel
theorem d_readFrame_252 : decode c_M_readFrame 252 = .ok (.iconst 1, 1) := by decide +kernel
theorem d_readFrame_253 : decode c_M_readFrame 253 = .ok (.goto 4, 3) := by decide +kernel
theorem d_readFrame_256 : decode c_M_readFrame 256 = .ok (.iconst 0, 1) := by decide +kernel
theorem d_readFrame_257 : decode c_M_readFrame 257 = .ok (.istore 6, 2) := by decide +kernel
theorem d_readFrame_259 : decode c_M_readFrame 259 = .ok (.iinc 7 1, 3) := by decide +kernel
theorem d_readFrame_262 : decode c_M_readFrame 262 = .ok (.goto (-39), 3) := by decide +kernel
theorem d_readFrame_265 : decode c_M_readFrame 265 = .ok (.aload_n 0, 1) := by decide +kernel
theorem d_readFrame_266 : decode c_M_readFrame 266 = .ok (.iload 6, 2) := by decide +kernel
theorem d_readFrame_268 : decode c_M_readFrame 268 = .ok (.aload_n 0, 1) := by decide +kernel
theorem d_readFrame_269 : decode c_M_readFrame 269 = .ok (.getfield 268, 3) := by decide +kernel
theorem d_readFrame_272 : decode c_M_readFrame 272 = .ok (.iconst 1, 1) := by decide +kernel
theorem d_readFrame_273 : decode c_M_readFrame 273 = .ok (.isub, 1) := by decide +kernel
theorem d_readFrame_274 : decode c_M_readFrame 274 = .ok (.invokevirtual 291, 3) := by decide +kernel
theorem d_readFrame_277 : decode c_M_readFrame 277 = .ok (.aload_n 0, 1) := by decide +kernel
theorem d_readFrame_278 : decode c_M_readFrame 278 = .ok (.getfield 265, 3) := by decide +kernel
theorem d_readFrame_281 : decode c_M_readFrame 281 = .ok (.ifCond .ne 10, 3) := by decide +kernel
theorem d_readFrame_284 : decode c_M_readFrame 284 = .ok (.aload_n 0, 1) := by decide +kernel
theorem d_readFrame_285 : decode c_M_readFrame 285 = .ok (.invokevirtual 281, 3) := by decide +kernel
theorem d_readFrame_288 : decode c_M_readFrame 288 = .ok (.goto 4, 3) := by decide +kernel
theorem d_readFrame_291 : decode c_M_readFrame 291 = .ok (.iconst 0, 1) := by decide +kernel
theorem d_readFrame_292 : decode c_M_readFrame 292 = .ok (.istore 7, 2) := by decide +kernel
theorem d_readFrame_294 : decode c_M_readFrame 294 = .ok (.aload_n 0, 1) := by decide +kernel
theorem d_readFrame_295 : decode c_M_readFrame 295 = .ok (.iload 7, 2) := by decide +kernel
theorem d_readFrame_297 : decode c_M_readFrame 297 = .ok (.iconst 4, 1) := by decide +kernel
theorem d_readFrame_298 : decode c_M_readFrame 298 = .ok (.ishr, 1) := by decide +kernel
theorem d_readFrame_299 : decode c_M_readFrame 299 = .ok (.iconst 1, 1) := by decide +kernel
theorem d_readFrame_300 : decode c_M_readFrame 300 = .ok (.if_icmp .eq 11, 3) := by decide +kernel
theorem d_readFrame_303 : decode c_M_readFrame 303 = .ok (.iload 7, 2) := by decide +kernel
theorem d_readFrame_305 : decode c_M_readFrame 305 = .ok (.iconst 4, 1) := by decide +kernel
theorem d_readFrame_306 : decode c_M_readFrame 306 = .ok (.ishr, 1) := by decide +kernel
theorem d_readFrame_307 : decode c_M_readFrame 307 = .ok (.iconst 2, 1) := by decide +kernel
theorem d_readFrame_308 : decode c_M_readFrame 308 = .ok (.if_icmp .ne 25, 3) := by decide +kernel
theorem d_readFrame_311 : decode c_M_readFrame 311 = .ok (.iload 7, 2) := by decide +kernel
theorem d_readFrame_313 : decode c_M_readFrame 313 = .ok (.bipush 15, 2) := by decide +kernel
theorem d_readFrame_315 : decode c_M_readFrame 315 = .ok (.iand, 1) := by decide +kernel
theorem d_readFrame_316 : decode c_M_readFrame 316 = .ok (.iconst 1, 1) := by decide +kernel
theorem d_readFrame_317 : decode c_M_readFrame 317 = .ok (.if_icmp .eq 12, 3) := by decide +kernel
theorem d_readFrame_320 : decode c_M_readFrame 320 = .ok (.iload 7, 2) := by decide +kernel
theorem d_readFrame_322 : decode c_M_readFrame 322 = .ok (.bipush 15, 2) := by decide +kernel
theorem d_readFrame_324 : decode c_M_readFrame 324 = .ok (.iand, 1) := by decide +kernel
theorem d_readFrame_325 : decode c_M_readFrame 325 = .ok (.iconst 2, 1) := by decide +kernel
theorem d_readFrame_326 : decode c_M_readFrame 326 = .ok (.if_icmp .ne 7, 3) := by decide +kernel
theorem d_readFrame_329 : decode c_M_readFrame 329 = .ok (.iconst 1, 1) := by decide +kernel
theorem d_readFrame_330 : decode c_M_readFrame 330 = .ok (.goto 4, 3) := by decide +kernel
theorem d_readFrame_333 : decode c_M_readFrame 333 = .ok (.iconst 0, 1) := by decide +kernel
theorem d_readFrame_334 : decode c_M_readFrame 334 = .ok (.aload_n 0, 1) := by decide +kernel
theorem d_readFrame_335 : decode c_M_readFrame 335 = .ok (.getfield 268, 3) := by decide +kernel
theorem d_readFrame_338 : decode c_M_readFrame 338 = .ok (.iconst 1, 1) := by decide +kernel
theorem d_readFrame_339 : decode c_M_readFrame 339 = .ok (.isub, 1) := by decide +kernel
theorem d_readFrame_340 : decode c_M_readFrame 340 = .ok (.invokevirtual 291, 3) := by decide +kernel
theorem d_readFrame_343 : decode c_M_readFrame 343 = .ok (.aload_n 0, 1) := by decide +kernel
theorem d_readFrame_344 : decode c_M_readFrame 344 = .ok (.getfield 50, 3) := by decide +kernel
theorem d_readFrame_347 : decode c_M_readFrame 347 = .ok (.bipush 6, 2) := by decide +kernel
theorem d_readFrame_349 : decode c_M_readFrame 349 = .ok (.iload 5, 2) := by decide +kernel
theorem d_readFrame_351 : decode c_M_readFrame 351 = .ok (.iadd, 1) := by decide +kernel
theorem d_readFrame_352 : decode c_M_readFrame 352 = .ok (.iload 7, 2) := by decide +kernel
theorem d_readFrame_354 : decode c_M_readFrame 354 = .ok (.iconst 4, 1) := by decide +kernel
theorem d_readFrame_355 : decode c_M_readFrame 355 = .ok (.ishr, 1) := by decide +kernel
theorem d_readFrame_356 : decode c_M_readFrame 356 = .ok (.iastore, 1) := by decide +kernel
theorem d_readFrame_357 : decode c_M_readFrame 357 = .ok (.aload_n 0, 1) := by decide +kernel
theorem d_readFrame_358 : decode c_M_readFrame 358 = .ok (.getfield 53, 3) := by decide +kernel
theorem d_readFrame_361 : decode c_M_readFrame 361 = .ok (.bipush 6, 2) := by decide +kernel
theorem d_readFrame_363 : decode c_M_readFrame 363 = .ok (.iload 5, 2) := by decide +kernel
theorem d_readFrame_365 : decode c_M_readFrame 365 = .ok (.iadd, 1) := by decide +kernel
theorem d_readFrame_366 : decode c_M_readFrame 366 = .ok (.iload 7, 2) := by decide +kernel
theorem d_readFrame_368 : decode c_M_readFrame 368 = .ok (.bipush 15, 2) := by decide +kernel
theorem d_readFrame_370 : decode c_M_readFrame 370 = .ok (.iand, 1) := by decide +kernel
theorem d_readFrame_371 : decode c_M_readFrame 371 = .ok (.iastore, 1) := by decide +kernel
theorem d_readFrame_372 : decode c_M_readFrame 372 = .ok (.aload_n 0, 1) := by decide +kernel
theorem d_readFrame_373 : decode c_M_readFrame 373 = .ok (.getfield 121, 3) := by decide +kernel
theorem d_readFrame_376 : decode c_M_readFrame 376 = .ok (.iload 5, 2) := by decide +kernel
theorem d_readFrame_378 : decode c_M_readFrame 378 = .ok (.aload_n 0, 1) := by decide +kernel
theorem d_readFrame_379 : decode c_M_readFrame 379 = .ok (.getfield 265, 3) := by decide +kernel
theorem d_readFrame_382 : decode c_M_readFrame 382 = .ok (.ifCond .ne 10, 3) := by decide +kernel
theorem d_readFrame_385 : decode c_M_readFrame 385 = .ok (.aload_n 0, 1) := by decide +kernel
theorem d_readFrame_386 : decode c_M_readFrame 386 = .ok (.invokevirtual 281, 3) := by decide +kernel
theorem d_readFrame_389 : decode c_M_readFrame 389 = .ok (.goto 4, 3) := by decide +kernel
theorem d_readFrame_392 : decode c_M_readFrame 392 = .ok (.iconst 0, 1) := by decide +kernel
theorem d_readFrame_393 : decode c_M_readFrame 393 = .ok (.iastore, 1) := by decide +kernel
theorem d_readFrame_394 : decode c_M_readFrame 394 = .ok (.aload_n 0, 1) := by decide +kernel
theorem d_readFrame_395 : decode c_M_readFrame 395 = .ok (.aload_n 0, 1) := by decide +kernel
theorem d_readFrame_396 : decode c_M_readFrame 396 = .ok (.getfield 121, 3) := by decide +kernel
theorem d_readFrame_399 : decode c_M_readFrame 399 = .ok (.iload 5, 2) := by decide +kernel
theorem d_readFrame_401 : decode c_M_readFrame 401 = .ok (.iaload, 1) := by decide +kernel
theorem d_readFrame_402 : decode c_M_readFrame 402 = .ok (.iconst 4, 1) := by decide +kernel
theorem d_readFrame_403 : decode c_M_readFrame 403 = .ok (.if_icmp .ge 7, 3) := by decide +kernel
theorem d_readFrame_406 : decode c_M_readFrame 406 = .ok (.iconst 1, 1) := by decide +kernel
theorem d_readFrame_407 : decode c_M_readFrame 407 = .ok (.goto 4, 3) := by decide +kernel
theorem d_readFrame_410 : decode c_M_readFrame 410 = .ok (.iconst 0, 1) := by decide +kernel
theorem d_readFrame_411 : decode c_M_readFrame 411 = .ok (.aload_n 0, 1) := by decide +kernel
theorem d_readFrame_412 : decode c_M_readFrame 412 = .ok (.getfield 268, 3) := by decide +kernel
theorem d_readFrame_415 : decode c_M_readFrame 415 = .ok (.iconst 1, 1) := by decide +kernel
theorem d_readFrame_416 : decode c_M_readFrame 416 = .ok (.isub, 1) := by decide +kernel
theorem d_readFrame_417 : decode c_M_readFrame 417 = .ok (.invokevirtual 291, 3) := by decide +kernel
theorem d_readFrame_420 : decode c_M_readFrame 420 = .ok (.iinc 5 1, 3) := by decide +kernel
theorem d_readFrame_423 : decode c_M_readFrame 423 = .ok (.goto (-231), 3) := by decide +kernel
theorem d_readFrame_426 : decode c_M_readFrame 426 = .ok (.aload_n 0, 1) := by decide +kernel
theorem d_readFrame_427 : decode c_M_readFrame 427 = .ok (.getfield 265, 3) := by decide +kernel
theorem d_readFrame_430 : decode c_M_readFrame 430 = .ok (.ifCond .ne 35, 3) := by decide +kernel
theorem d_readFrame_433 : decode c_M_readFrame 433 = .ok (.aload_n 0, 1) := by decide +kernel
theorem d_readFrame_434 : decode c_M_readFrame 434 = .ok (.iconst 1, 1) := by decide +kernel
theorem d_readFrame_435 : decode c_M_readFrame 435 = .ok (.putfield 295, 3) := by decide +kernel
theorem d_readFrame_438 : decode c_M_readFrame 438 = .ok (.aload_n 0, 1) := by decide +kernel
theorem d_readFrame_439 : decode c_M_readFrame 439 = .ok (.getfield 41, 3) := by decide +kernel
theorem d_readFrame_442 : decode c_M_readFrame 442 = .ok (.iconst 2, 1) := by decide +kernel
theorem d_readFrame_443 : decode c_M_readFrame 443 = .ok (.iload_n 3, 1) := by decide +kernel
theorem d_readFrame_444 : decode c_M_readFrame 444 = .ok (.iastore, 1) := by decide +kernel
theorem d_readFrame_445 : decode c_M_readFrame 445 = .ok (.aload_n 0, 1) := by decide +kernel
theorem d_readFrame_446 : decode c_M_readFrame 446 = .ok (.getfield 44, 3) := by decide +kernel
theorem d_readFrame_449 : decode c_M_readFrame 449 = .ok (.iconst 2, 1) := by decide +kernel
theorem d_readFrame_450 : decode c_M_readFrame 450 = .ok (.iload_n 2, 1) := by decide +kernel
theorem d_readFrame_451 : decode c_M_readFrame 451 = .ok (.iastore, 1) := by decide +kernel
theorem d_readFrame_452 : decode c_M_readFrame 452 = .ok (.aload_n 0, 1) := by decide +kernel
theorem d_readFrame_453 : decode c_M_readFrame 453 = .ok (.getfield 47, 3) := by decide +kernel
theorem d_readFrame_456 : decode c_M_readFrame 456 = .ok (.iconst 2, 1) := by decide +kernel
theorem d_readFrame_457 : decode c_M_readFrame 457 = .ok (.iload 4, 2) := by decide +kernel
theorem d_readFrame_459 : decode c_M_readFrame 459 = .ok (.iastore, 1) := by decide +kernel
theorem d_readFrame_460 : decode c_M_readFrame 460 = .ok (.aload_n 0, 1) := by decide +kernel
theorem d_readFrame_461 : decode c_M_readFrame 461 = .ok (.iconst 2, 1) := by decide +kernel
theorem d_readFrame_462 : decode c_M_readFrame 462 = .ok (.invokevirtual 243, 3) := by decide +kernel
theorem d_readFrame_465 : decode c_M_readFrame 465 = .ok (.return_, 1) := by decide +kernel
theorem d_layerNamed_0 : decode c_M_layerNamed 0 = .ok (.iconst (-1), 1) := by decide +kernel
theorem d_layerNamed_1 : decode c_M_layerNamed 1 = .ok (.istore_n 2, 1) := by decide +kernel
theorem d_layerNamed_2 : decode c_M_layerNamed 2 = .ok (.iconst 0, 1) := by decide +kernel
theorem d_layerNamed_3 : decode c_M_layerNamed 3 = .ok (.istore_n 3, 1) := by decide +kernel
theorem d_layerNamed_4 : decode c_M_layerNamed 4 = .ok (.iload_n 3, 1) := by decide +kernel
theorem d_layerNamed_5 : decode c_M_layerNamed 5 = .ok (.aload_n 0, 1) := by decide +kernel
theorem d_layerNamed_6 : decode c_M_layerNamed 6 = .ok (.getfield 47, 3) := by decide +kernel
theorem d_layerNamed_9 : decode c_M_layerNamed 9 = .ok (.iconst 2, 1) := by decide +kernel
theorem d_layerNamed_10 : decode c_M_layerNamed 10 = .ok (.iaload, 1) := by decide +kernel
theorem d_layerNamed_11 : decode c_M_layerNamed 11 = .ok (.if_icmp .ge 25, 3) := by decide +kernel
theorem d_layerNamed_14 : decode c_M_layerNamed 14 = .ok (.aload_n 0, 1) := by decide +kernel
theorem d_layerNamed_15 : decode c_M_layerNamed 15 = .ok (.getfield 118, 3) := by decide +kernel
theorem d_layerNamed_18 : decode c_M_layerNamed 18 = .ok (.iload_n 3, 1) := by decide +kernel
theorem d_layerNamed_19 : decode c_M_layerNamed 19 = .ok (.iaload, 1) := by decide +kernel
theorem d_layerNamed_20 : decode c_M_layerNamed 20 = .ok (.iload_n 1, 1) := by decide +kernel
theorem d_layerNamed_21 : decode c_M_layerNamed 21 = .ok (.if_icmp .ne 7, 3) := by decide +kernel
theorem d_layerNamed_24 : decode c_M_layerNamed 24 = .ok (.iload_n 3, 1) := by decide +kernel
theorem d_layerNamed_25 : decode c_M_layerNamed 25 = .ok (.goto 4, 3) := by decide +kernel
theorem d_layerNamed_28 : decode c_M_layerNamed 28 = .ok (.iload_n 2, 1) := by decide +kernel
theorem d_layerNamed_29 : decode c_M_layerNamed 29 = .ok (.istore_n 2, 1) := by decide +kernel
theorem d_layerNamed_30 : decode c_M_layerNamed 30 = .ok (.iinc 3 1, 3) := by decide +kernel
theorem d_layerNamed_33 : decode c_M_layerNamed 33 = .ok (.goto (-29), 3) := by decide +kernel
theorem d_layerNamed_36 : decode c_M_layerNamed 36 = .ok (.iload_n 2, 1) := by decide +kernel
theorem d_layerNamed_37 : decode c_M_layerNamed 37 = .ok (.ireturn, 1) := by decide +kernel
theorem d_readScanHead_0 : decode c_M_readScanHead 0 = .ok (.aload_n 0, 1) := by decide +kernel
theorem d_readScanHead_1 : decode c_M_readScanHead 1 = .ok (.invokevirtual 281, 3) := by decide +kernel
theorem d_readScanHead_4 : decode c_M_readScanHead 4 = .ok (.istore_n 1, 1) := by decide +kernel
theorem d_readScanHead_5 : decode c_M_readScanHead 5 = .ok (.aload_n 0, 1) := by decide +kernel
theorem d_readScanHead_6 : decode c_M_readScanHead 6 = .ok (.getfield 268, 3) := by decide +kernel
theorem d_readScanHead_9 : decode c_M_readScanHead 9 = .ok (.iconst 1, 1) := by decide +kernel
theorem d_readScanHead_10 : decode c_M_readScanHead 10 = .ok (.isub, 1) := by decide +kernel
theorem d_readScanHead_11 : decode c_M_readScanHead 11 = .ok (.istore_n 2, 1) := by decide +kernel
theorem d_readScanHead_12 : decode c_M_readScanHead 12 = .ok (.aload_n 0, 1) := by decide +kernel
theorem d_readScanHead_13 : decode c_M_readScanHead 13 = .ok (.iload_n 1, 1) := by decide +kernel
theorem d_readScanHead_14 : decode c_M_readScanHead 14 = .ok (.ifCond .le 17, 3) := by decide +kernel
theorem d_readScanHead_17 : decode c_M_readScanHead 17 = .ok (.iload_n 1, 1) := by decide +kernel
theorem d_readScanHead_18 : decode c_M_readScanHead 18 = .ok (.aload_n 0, 1) := by decide +kernel
theorem d_readScanHead_19 : decode c_M_readScanHead 19 = .ok (.getfield 47, 3) := by decide +kernel
theorem d_readScanHead_22 : decode c_M_readScanHead 22 = .ok (.iconst 2, 1) := by decide +kernel
theorem d_readScanHead_23 : decode c_M_readScanHead 23 = .ok (.iaload, 1) := by decide +kernel
theorem d_readScanHead_24 : decode c_M_readScanHead 24 = .ok (.if_icmp .gt 7, 3) := by decide +kernel
theorem d_readScanHead_27 : decode c_M_readScanHead 27 = .ok (.iconst 1, 1) := by decide +kernel
theorem d_readScanHead_28 : decode c_M_readScanHead 28 = .ok (.goto 4, 3) := by decide +kernel
theorem d_readScanHead_31 : decode c_M_readScanHead 31 = .ok (.iconst 0, 1) := by decide +kernel
theorem d_readScanHead_32 : decode c_M_readScanHead 32 = .ok (.iload_n 2, 1) := by decide +kernel
theorem d_readScanHead_33 : decode c_M_readScanHead 33 = .ok (.invokevirtual 291, 3) := by decide +kernel
theorem d_readScanHead_36 : decode c_M_readScanHead 36 = .ok (.aload_n 0, 1) := by decide +kernel
theorem d_readScanHead_37 : decode c_M_readScanHead 37 = .ok (.getfield 265, 3) := by decide +kernel
theorem d_readScanHead_40 : decode c_M_readScanHead 40 = .ok (.ifCond .ne 31, 3) := by decide +kernel
theorem d_readScanHead_43 : decode c_M_readScanHead 43 = .ok (.aload_n 0, 1) := by decide +kernel
theorem d_readScanHead_44 : decode c_M_readScanHead 44 = .ok (.getfield 275, 3) := by decide +kernel
theorem d_readScanHead_47 : decode c_M_readScanHead 47 = .ok (.aload_n 0, 1) := by decide +kernel
theorem d_readScanHead_48 : decode c_M_readScanHead 48 = .ok (.getfield 278, 3) := by decide +kernel
theorem d_readScanHead_51 : decode c_M_readScanHead 51 = .ok (.isub, 1) := by decide +kernel
theorem d_readScanHead_52 : decode c_M_readScanHead 52 = .ok (.bipush 6, 2) := by decide +kernel
theorem d_readScanHead_54 : decode c_M_readScanHead 54 = .ok (.iconst 2, 1) := by decide +kernel
theorem d_readScanHead_55 : decode c_M_readScanHead 55 = .ok (.iload_n 1, 1) := by decide +kernel
theorem d_readScanHead_56 : decode c_M_readScanHead 56 = .ok (.imul, 1) := by decide +kernel
theorem d_readScanHead_57 : decode c_M_readScanHead 57 = .ok (.iadd, 1) := by decide +kernel
theorem d_readScanHead_58 : decode c_M_readScanHead 58 = .ok (.if_icmp .eq 13, 3) := by decide +kernel
theorem d_readScanHead_61 : decode c_M_readScanHead 61 = .ok (.aload_n 0, 1) := by decide +kernel
theorem d_readScanHead_62 : decode c_M_readScanHead 62 = .ok (.iconst 4, 1) := by decide +kernel
theorem d_readScanHead_63 : decode c_M_readScanHead 63 = .ok (.aload_n 0, 1) := by decide +kernel
theorem d_readScanHead_64 : decode c_M_readScanHead 64 = .ok (.getfield 278, 3) := by decide +kernel
theorem d_readScanHead_67 : decode c_M_readScanHead 67 = .ok (.invokevirtual 271, 3) := by decide +kernel
theorem d_readScanHead_70 : decode c_M_readScanHead 70 = .ok (.istore_n 3, 1) := by decide +kernel
theorem d_readScanHead_71 : decode c_M_readScanHead 71 = .ok (.iconst (-1), 1) := by decide +kernel
theorem d_readScanHead_72 : decode c_M_readScanHead 72 = .ok (.istore_n 3, 1) := by decide +kernel
theorem d_readScanHead_73 : decode c_M_readScanHead 73 = .ok (.iconst 0, 1) := by decide +kernel
theorem d_readScanHead_74 : decode c_M_readScanHead 74 = .ok (.istore 4, 2) := by decide +kernel
theorem d_readScanHead_76 : decode c_M_readScanHead 76 = .ok (.iconst 0, 1) := by decide +kernel
theorem d_readScanHead_77 : decode c_M_readScanHead 77 = .ok (.istore 5, 2) := by decide +kernel
theorem d_readScanHead_79 : decode c_M_readScanHead 79 = .ok (.iload 5, 2) := by decide +kernel
theorem d_readScanHead_81 : decode c_M_readScanHead 81 = .ok (.iload_n 1, 1) := by decide +kernel
theorem d_readScanHead_82 : decode c_M_readScanHead 82 = .ok (.if_icmp .ge 290, 3) := by decide +kernel
theorem d_readScanHead_85 : decode c_M_readScanHead 85 = .ok (.aload_n 0, 1) := by decide +kernel
theorem d_readScanHead_86 : decode c_M_readScanHead 86 = .ok (.getfield 265, 3) := by decide +kernel
theorem d_readScanHead_89 : decode c_M_readScanHead 89 = .ok (.ifCond .ne 283, 3) := by decide +kernel
theorem d_readScanHead_92 : decode c_M_readScanHead 92 = .ok (.aload_n 0, 1) := by decide +kernel
theorem d_readScanHead_93 : decode c_M_readScanHead 93 = .ok (.invokevirtual 281, 3) := by decide +kernel
theorem d_readScanHead_96 : decode c_M_readScanHead 96 = .ok (.istore 6, 2) := by decide +kernel
theorem d_readScanHead_98 : decode c_M_readScanHead 98 = .ok (.aload_n 0, 1) := by decide +kernel
theorem d_readScanHead_99 : decode c_M_readScanHead 99 = .ok (.getfield 265, 3) := by decide +kernel
theorem d_readScanHead_102 : decode c_M_readScanHead 102 = .ok (.ifCond .ne 12, 3) := by decide +kernel
theorem d_readScanHead_105 : decode c_M_readScanHead 105 = .ok (.aload_n 0, 1) := by decide +kernel
theorem d_readScanHead_106 : decode c_M_readScanHead 106 = .ok (.iload 6, 2) := by decide +kernel
theorem d_readScanHead_108 : decode c_M_readScanHead 108 = .ok (.invokevirtual 299, 3) := by decide +kernel
theorem d_readScanHead_111 : decode c_M_readScanHead 111 = .ok (.goto 4, 3) := by decide +kernel
theorem d_readScanHead_114 : decode c_M_readScanHead 114 = .ok (.iconst (-1), 1) := by decide +kernel
theorem d_readScanHead_115 : decode c_M_readScanHead 115 = .ok (.istore 7, 2) := by decide +kernel
theorem d_readScanHead_117 : decode c_M_readScanHead 117 = .ok (.aload_n 0, 1) := by decide +kernel
theorem d_readScanHead_118 : decode c_M_readScanHead 118 = .ok (.iload 7, 2) := by decide +kernel
theorem d_readScanHead_120 : decode c_M_readScanHead 120 = .ok (.iload_n 3, 1) := by decide +kernel
theorem d_readScanHead_121 : decode c_M_readScanHead 121 = .ok (.if_icmp .le 26, 3) := by decide +kernel
theorem d_readScanHead_124 : decode c_M_readScanHead 124 = .ok (.aload_n 0, 1) := by decide +kernel
theorem d_readScanHead_125 : decode c_M_readScanHead 125 = .ok (.getfield 127, 3) := by decide +kernel
theorem d_readScanHead_128 : decode c_M_readScanHead 128 = .ok (.iload 7, 2) := by decide +kernel
theorem d_readScanHead_130 : decode c_M_readScanHead 130 = .ok (.ifCond .ge 7, 3) := by decide +kernel
theorem d_readScanHead_133 : decode c_M_readScanHead 133 = .ok (.iconst 0, 1) := by decide +kernel
theorem d_readScanHead_134 : decode c_M_readScanHead 134 = .ok (.goto 5, 3) := by decide +kernel
theorem d_readScanHead_137 : decode c_M_readScanHead 137 = .ok (.iload 7, 2) := by decide +kernel
theorem d_readScanHead_139 : decode c_M_readScanHead 139 = .ok (.baload, 1) := by decide +kernel
theorem d_readScanHead_140 : decode c_M_readScanHead 140 = .ok (.ifCond .ne 7, 3) := by decide +kernel
theorem d_readScanHead_143 : decode c_M_readScanHead 143 = .ok (.iconst 1, 1) := by decide +kernel
theorem d_readScanHead_144 : decode c_M_readScanHead 144 = .ok (.goto 4, 3) := by decide +kernel
theorem d_readScanHead_147 : decode c_M_readScanHead 147 = .ok (.iconst 0, 1) := by decide +kernel
theorem d_readScanHead_148 : decode c_M_readScanHead 148 = .ok (.aload_n 0, 1) := by decide +kernel
theorem d_readScanHead_149 : decode c_M_readScanHead 149 = .ok (.getfield 268, 3) := by decide +kernel
theorem d_readScanHead_152 : decode c_M_readScanHead 152 = .ok (.iconst 1, 1) := by decide +kernel
theorem d_readScanHead_153 : decode c_M_readScanHead 153 = .ok (.isub, 1) := by decide +kernel
theorem d_readScanHead_154 : decode c_M_readScanHead 154 = .ok (.invokevirtual 291, 3) := by decide +kernel
theorem d_readScanHead_157 : decode c_M_readScanHead 157 = .ok (.aload_n 0, 1) := by decide +kernel
theorem d_readScanHead_158 : decode c_M_readScanHead 158 = .ok (.getfield 265, 3) := by decide +kernel
theorem d_readScanHead_161 : decode c_M_readScanHead 161 = .ok (.ifCond .ne 32, 3) := by decide +kernel
theorem d_readScanHead_164 : decode c_M_readScanHead 164 = .ok (.aload_n 0, 1) := by decide +kernel
theorem d_readScanHead_165 : decode c_M_readScanHead 165 = .ok (.getfield 106, 3) := by decide +kernel
theorem d_readScanHead_168 : decode c_M_readScanHead 168 = .ok (.aload_n 0, 1) := by decide +kernel
theorem d_readScanHead_169 : decode c_M_readScanHead 169 = .ok (.getfield 121, 3) := by decide +kernel
theorem d_readScanHead_172 : decode c_M_readScanHead 172 = .ok (.iload 7, 2) := by decide +kernel
theorem d_readScanHead_174 : decode c_M_readScanHead 174 = .ok (.iaload, 1) := by decide +kernel
theorem d_readScanHead_175 : decode c_M_readScanHead 175 = .ok (.baload, 1) := by decide +kernel
theorem d_readScanHead_176 : decode c_M_readScanHead 176 = .ok (.ifCond .ne 17, 3) := by decide +kernel
theorem d_readScanHead_179 : decode c_M_readScanHead 179 = .ok (.aload_n 0, 1) := by decide +kernel
theorem d_readScanHead_180 : decode c_M_readScanHead 180 = .ok (.bipush 6, 2) := by decide +kernel
theorem d_readScanHead_182 : decode c_M_readScanHead 182 = .ok (.aload_n 0, 1) := by decide +kernel
theorem d_readScanHead_183 : decode c_M_readScanHead 183 = .ok (.getfield 268, 3) := by decide +kernel
theorem d_readScanHead_186 : decode c_M_readScanHead 186 = .ok (.iconst 1, 1) := by decide +kernel
theorem d_readScanHead_187 : decode c_M_readScanHead 187 = .ok (.isub, 1) := by decide +kernel
theorem d_readScanHead_188 : decode c_M_readScanHead 188 = .ok (.invokevirtual 271, 3) := by decide +kernel
theorem d_readScanHead_191 : decode c_M_readScanHead 191 = .ok (.istore 8, 2) := by decide +kernel
theorem d_readScanHead_193 : decode c_M_readScanHead 193 = .ok (.aload_n 0, 1) := by decide +kernel
theorem d_readScanHead_194 : decode c_M_readScanHead 194 = .ok (.getfield 265, 3) := by decide +kernel
theorem d_readScanHead_197 : decode c_M_readScanHead 197 = .ok (.ifCond .ne 10, 3) := by decide +kernel
theorem d_readScanHead_200 : decode c_M_readScanHead 200 = .ok (.aload_n 0, 1) := by decide +kernel
theorem d_readScanHead_201 : decode c_M_readScanHead 201 = .ok (.invokevirtual 281, 3) := by decide +kernel
theorem d_readScanHead_204 : decode c_M_readScanHead 204 = .ok (.goto 4, 3) := by decide +kernel
theorem d_readScanHead_207 : decode c_M_readScanHead 207 = .ok (.iconst 0, 1) := by decide +kernel
theorem d_readScanHead_208 : decode c_M_readScanHead 208 = .ok (.istore 8, 2) := by decide +kernel
theorem d_readScanHead_210 : decode c_M_readScanHead 210 = .ok (.aload_n 0, 1) := by decide +kernel
theorem d_readScanHead_211 : decode c_M_readScanHead 211 = .ok (.iload 8, 2) := by decide +kernel
theorem d_readScanHead_213 : decode c_M_readScanHead 213 = .ok (.ifCond .eq 23, 3) := by decide +kernel
theorem d_readScanHead_216 : decode c_M_readScanHead 216 = .ok (.iload 8, 2) := by decide +kernel
theorem d_readScanHead_218 : decode c_M_readScanHead 218 = .ok (.iconst 1, 1) := by decide +kernel
theorem d_readScanHead_219 : decode c_M_readScanHead 219 = .ok (.if_icmp .eq 17, 3) := by decide +kernel
theorem d_readScanHead_222 : decode c_M_readScanHead 222 = .ok (.iload 8, 2) := by decide +kernel
theorem d_readScanHead_224 : decode c_M_readScanHead 224 = .ok (.bipush 16, 2) := by decide +kernel
theorem d_readScanHead_226 : decode c_M_readScanHead 226 = .ok (.if_icmp .eq 10, 3) := by decide +kernel
theorem d_readScanHead_229 : decode c_M_readScanHead 229 = .ok (.iload 8, 2) := by decide +kernel
theorem d_readScanHead_231 : decode c_M_readScanHead 231 = .ok (.bipush 17, 2) := by decide +kernel
theorem d_readScanHead_233 : decode c_M_readScanHead 233 = .ok (.if_icmp .ne 7, 3) := by decide +kernel
theorem d_readScanHead_236 : decode c_M_readScanHead 236 = .ok (.iconst 1, 1) := by decide +kernel
theorem d_readScanHead_237 : decode c_M_readScanHead 237 = .ok (.goto 4, 3) := by decide +kernel
theorem d_readScanHead_240 : decode c_M_readScanHead 240 = .ok (.iconst 0, 1) := by decide +kernel
theorem d_readScanHead_241 : decode c_M_readScanHead 241 = .ok (.aload_n 0, 1) := by decide +kernel
theorem d_readScanHead_242 : decode c_M_readScanHead 242 = .ok (.getfield 268, 3) := by decide +kernel
theorem d_readScanHead_245 : decode c_M_readScanHead 245 = .ok (.iconst 1, 1) := by decide +kernel
theorem d_readScanHead_246 : decode c_M_readScanHead 246 = .ok (.isub, 1) := by decide +kernel
theorem d_readScanHead_247 : decode c_M_readScanHead 247 = .ok (.invokevirtual 291, 3) := by decide +kernel
theorem d_readScanHead_250 : decode c_M_readScanHead 250 = .ok (.aload_n 0, 1) := by decide +kernel
theorem d_readScanHead_251 : decode c_M_readScanHead 251 = .ok (.getfield 265, 3) := by decide +kernel
theorem d_readScanHead_254 : decode c_M_readScanHead 254 = .ok (.ifCond .ne 43, 3) := by decide +kernel
theorem d_readScanHead_257 : decode c_M_readScanHead 257 = .ok (.aload_n 0, 1) := by decide +kernel
theorem d_readScanHead_258 : decode c_M_readScanHead 258 = .ok (.getfield 115, 3) := by decide +kernel
theorem d_readScanHead_261 : decode c_M_readScanHead 261 = .ok (.iload 8, 2) := by decide +kernel
theorem d_readScanHead_263 : decode c_M_readScanHead 263 = .ok (.iconst 4, 1) := by decide +kernel
theorem d_readScanHead_264 : decode c_M_readScanHead 264 = .ok (.ishr, 1) := by decide +kernel
theorem d_readScanHead_265 : decode c_M_readScanHead 265 = .ok (.baload, 1) := by decide +kernel
theorem d_readScanHead_266 : decode c_M_readScanHead 266 = .ok (.ifCond .eq 17, 3) := by decide +kernel
theorem d_readScanHead_269 : decode c_M_readScanHead 269 = .ok (.aload_n 0, 1) := by decide +kernel
theorem d_readScanHead_270 : decode c_M_readScanHead 270 = .ok (.getfield 115, 3) := by decide +kernel
theorem d_readScanHead_273 : decode c_M_readScanHead 273 = .ok (.iconst 2, 1) := by decide +kernel
theorem d_readScanHead_274 : decode c_M_readScanHead 274 = .ok (.iload 8, 2) := by decide +kernel
theorem d_readScanHead_276 : decode c_M_readScanHead 276 = .ok (.iconst 1, 1) := by decide +kernel
theorem d_readScanHead_277 : decode c_M_readScanHead 277 = .ok (.iand, 1) := by decide +kernel
theorem d_readScanHead_278 : decode c_M_readScanHead 278 = .ok (.iadd, 1) := by decide +kernel
theorem d_readScanHead_279 : decode c_M_readScanHead 279 = .ok (.baload, 1) := by decide +kernel
theorem d_readScanHead_280 : decode c_M_readScanHead 280 = .ok (.ifCond .ne 17, 3) := by decide +kernel
theorem d_readScanHead_283 : decode c_M_readScanHead 283 = .ok (.aload_n 0, 1) := by decide +kernel
theorem d_readScanHead_284 : decode c_M_readScanHead 284 = .ok (.bipush 6, 2) := by decide +kernel
theorem d_readScanHead_286 : decode c_M_readScanHead 286 = .ok (.aload_n 0, 1) := by decide +kernel
theorem d_readScanHead_287 : decode c_M_readScanHead 287 = .ok (.getfield 268, 3) := by decide +kernel
theorem d_readScanHead_290 : decode c_M_readScanHead 290 = .ok (.iconst 1, 1) := by decide +kernel
theorem d_readScanHead_291 : decode c_M_readScanHead 291 = .ok (.isub, 1) := by decide +kernel
theorem d_readScanHead_292 : decode c_M_readScanHead 292 = .ok (.invokevirtual 271, 3) := by decide +kernel
theorem d_readScanHead_295 : decode c_M_readScanHead 295 = .ok (.istore 9, 2) := by decide +kernel
theorem d_readScanHead_297 : decode c_M_readScanHead 297 = .ok (.aload_n 0, 1) := by decide +kernel
theorem d_readScanHead_298 : decode c_M_readScanHead 298 = .ok (.getfield 265, 3) := by decide +kernel
theorem d_readScanHead_301 : decode c_M_readScanHead 301 = .ok (.ifCond .ne 65, 3) := by decide +kernel
theorem d_readScanHead_304 : decode c_M_readScanHead 304 = .ok (.aload_n 0, 1) := by decide +kernel
theorem d_readScanHead_305 : decode c_M_readScanHead 305 = .ok (.getfield 130, 3) := by decide +kernel
theorem d_readScanHead_308 : decode c_M_readScanHead 308 = .ok (.iload 5, 2) := by decide +kernel
theorem d_readScanHead_310 : decode c_M_readScanHead 310 = .ok (.iload 7, 2) := by decide +kernel
theorem d_readScanHead_312 : decode c_M_readScanHead 312 = .ok (.iastore, 1) := by decide +kernel
theorem d_readScanHead_313 : decode c_M_readScanHead 313 = .ok (.aload_n 0, 1) := by decide +kernel
theorem d_readScanHead_314 : decode c_M_readScanHead 314 = .ok (.getfield 133, 3) := by decide +kernel
theorem d_readScanHead_317 : decode c_M_readScanHead 317 = .ok (.iload 5, 2) := by decide +kernel
theorem d_readScanHead_319 : decode c_M_readScanHead 319 = .ok (.iload 8, 2) := by decide +kernel
theorem d_readScanHead_321 : decode c_M_readScanHead 321 = .ok (.iconst 4, 1) := by decide +kernel
theorem d_readScanHead_322 : decode c_M_readScanHead 322 = .ok (.ishr, 1) := by decide +kernel
theorem d_readScanHead_323 : decode c_M_readScanHead 323 = .ok (.iastore, 1) := by decide +kernel
theorem d_readScanHead_324 : decode c_M_readScanHead 324 = .ok (.aload_n 0, 1) := by decide +kernel
theorem d_readScanHead_325 : decode c_M_readScanHead 325 = .ok (.getfield 136, 3) := by decide +kernel
theorem d_readScanHead_328 : decode c_M_readScanHead 328 = .ok (.iload 5, 2) := by decide +kernel
theorem d_readScanHead_330 : decode c_M_readScanHead 330 = .ok (.iconst 2, 1) := by decide +kernel
theorem d_readScanHead_331 : decode c_M_readScanHead 331 = .ok (.iload 8, 2) := by decide +kernel
theorem d_readScanHead_333 : decode c_M_readScanHead 333 = .ok (.iconst 1, 1) := by decide +kernel
theorem d_readScanHead_334 : decode c_M_readScanHead 334 = .ok (.iand, 1) := by decide +kernel
theorem d_readScanHead_335 : decode c_M_readScanHead 335 = .ok (.iadd, 1) := by decide +kernel
theorem d_readScanHead_336 : decode c_M_readScanHead 336 = .ok (.iastore, 1) := by decide +kernel
theorem d_readScanHead_337 : decode c_M_readScanHead 337 = .ok (.iload 7, 2) := by decide +kernel
theorem d_readScanHead_339 : decode c_M_readScanHead 339 = .ok (.istore_n 3, 1) := by decide +kernel
theorem d_readScanHead_340 : decode c_M_readScanHead 340 = .ok (.iload 4, 2) := by decide +kernel
theorem d_readScanHead_342 : decode c_M_readScanHead 342 = .ok (.aload_n 0, 1) := by decide +kernel
theorem d_readScanHead_343 : decode c_M_readScanHead 343 = .ok (.getfield 50, 3) := by decide +kernel
theorem d_readScanHead_346 : decode c_M_readScanHead 346 = .ok (.bipush 6, 2) := by decide +kernel
theorem d_readScanHead_348 : decode c_M_readScanHead 348 = .ok (.iload 7, 2) := by decide +kernel
theorem d_readScanHead_350 : decode c_M_readScanHead 350 = .ok (.iadd, 1) := by decide +kernel
theorem d_readScanHead_351 : decode c_M_readScanHead 351 = .ok (.iaload, 1) := by decide +kernel
theorem d_readScanHead_352 : decode c_M_readScanHead 352 = .ok (.aload_n 0, 1) := by decide +kernel
theorem d_readScanHead_353 : decode c_M_readScanHead 353 = .ok (.getfield 53, 3) := by decide +kernel
theorem d_readScanHead_356 : decode c_M_readScanHead 356 = .ok (.bipush 6, 2) := by decide +kernel
theorem d_readScanHead_358 : decode c_M_readScanHead 358 = .ok (.iload 7, 2) := by decide +kernel
theorem d_readScanHead_360 : decode c_M_readScanHead 360 = .ok (.iadd, 1) := by decide +kernel
theorem d_readScanHead_361 : decode c_M_readScanHead 361 = .ok (.iaload, 1) := by decide +kernel
theorem d_readScanHead_362 : decode c_M_readScanHead 362 = .ok (.imul, 1) := by decide +kernel
theorem d_readScanHead_363 : decode c_M_readScanHead 363 = .ok (.iadd, 1) := by decide +kernel
theorem d_readScanHead_364 : decode c_M_readScanHead 364 = .ok (.istore 4, 2) := by decide +kernel
theorem d_readScanHead_366 : decode c_M_readScanHead 366 = .ok (.iinc 5 1, 3) := by decide +kernel
theorem d_readScanHead_369 : decode c_M_readScanHead 369 = .ok (.goto (-290), 3) := by decide +kernel
theorem d_readScanHead_372 : decode c_M_readScanHead 372 = .ok (.iconst 0, 1) := by decide +kernel
theorem d_readScanHead_373 : decode c_M_readScanHead 373 = .ok (.istore 5, 2) := by decide +kernel
theorem d_readScanHead_375 : decode c_M_readScanHead 375 = .ok (.iload 5, 2) := by decide +kernel
theorem d_readScanHead_377 : decode c_M_readScanHead 377 = .ok (.iconst 3, 1) := by decide +kernel
theorem d_readScanHead_378 : decode c_M_readScanHead 378 = .ok (.if_icmp .ge 54, 3) := by decide +kernel
theorem d_readScanHead_381 : decode c_M_readScanHead 381 = .ok (.aload_n 0, 1) := by decide +kernel
theorem d_readScanHead_382 : decode c_M_readScanHead 382 = .ok (.getfield 265, 3) := by decide +kernel
theorem d_readScanHead_385 : decode c_M_readScanHead 385 = .ok (.ifCond .ne 47, 3) := by decide +kernel
theorem d_readScanHead_388 : decode c_M_readScanHead 388 = .ok (.aload_n 0, 1) := by decide +kernel
theorem d_readScanHead_389 : decode c_M_readScanHead 389 = .ok (.invokevirtual 281, 3) := by decide +kernel
theorem d_readScanHead_392 : decode c_M_readScanHead 392 = .ok (.istore 6, 2) := by decide +kernel
theorem d_readScanHead_394 : decode c_M_readScanHead 394 = .ok (.aload_n 0, 1) := by decide +kernel
theorem d_readScanHead_395 : decode c_M_readScanHead 395 = .ok (.iload 6, 2) := by decide +kernel
theorem d_readScanHead_397 : decode c_M_readScanHead 397 = .ok (.iload 5, 2) := by decide +kernel
theorem d_readScanHead_399 : decode c_M_readScanHead 399 = .ok (.iconst 1, 1) := by decide +kernel
theorem d_readScanHead_400 : decode c_M_readScanHead 400 = .ok (.if_icmp .ne 8, 3) := by decide +kernel
theorem d_readScanHead_403 : decode c_M_readScanHead 403 = .ok (.bipush 63, 2) := by decide +kernel
theorem d_readScanHead_405 : decode c_M_readScanHead 405 = .ok (.goto 4, 3) := by decide +kernel
theorem d_readScanHead_408 : decode c_M_readScanHead 408 = .ok (.iconst 0, 1) := by decide +kernel
theorem d_readScanHead_409 : decode c_M_readScanHead 409 = .ok (.if_icmp .ne 7, 3) := by decide +kernel
theorem d_readScanHead_412 : decode c_M_readScanHead 412 = .ok (.iconst 1, 1) := by decide +kernel
theorem d_readScanHead_413 : decode c_M_readScanHead 413 = .ok (.goto 4, 3) := by decide +kernel
theorem d_readScanHead_416 : decode c_M_readScanHead 416 = .ok (.iconst 0, 1) := by decide +kernel
theorem d_readScanHead_417 : decode c_M_readScanHead 417 = .ok (.aload_n 0, 1) := by decide +kernel
theorem d_readScanHead_418 : decode c_M_readScanHead 418 = .ok (.getfield 268, 3) := by decide +kernel
theorem d_readScanHead_421 : decode c_M_readScanHead 421 = .ok (.iconst 1, 1) := by decide +kernel
theorem d_readScanHead_422 : decode c_M_readScanHead 422 = .ok (.isub, 1) := by decide +kernel
theorem d_readScanHead_423 : decode c_M_readScanHead 423 = .ok (.invokevirtual 291, 3) := by decide +kernel
theorem d_readScanHead_426 : decode c_M_readScanHead 426 = .ok (.iinc 5 1, 3) := by decide +kernel
theorem d_readScanHead_429 : decode c_M_readScanHead 429 = .ok (.goto (-54), 3) := by decide +kernel
theorem d_readScanHead_432 : decode c_M_readScanHead 432 = .ok (.aload_n 0, 1) := by decide +kernel
theorem d_readScanHead_433 : decode c_M_readScanHead 433 = .ok (.getfield 265, 3) := by decide +kernel
theorem d_readScanHead_436 : decode c_M_readScanHead 436 = .ok (.ifCond .ne 24, 3) := by decide +kernel
theorem d_readScanHead_439 : decode c_M_readScanHead 439 = .ok (.iload_n 1, 1) := by decide +kernel
theorem d_readScanHead_440 : decode c_M_readScanHead 440 = .ok (.iconst 1, 1) := by decide +kernel
theorem d_readScanHead_441 : decode c_M_readScanHead 441 = .ok (.if_icmp .le 19, 3) := by decide +kernel
theorem d_readScanHead_444 : decode c_M_readScanHead 444 = .ok (.iload 4, 2) := by decide +kernel
theorem d_readScanHead_446 : decode c_M_readScanHead 446 = .ok (.bipush 10, 2) := by decide +kernel
theorem d_readScanHead_448 : decode c_M_readScanHead 448 = .ok (.if_icmp .le 12, 3) := by decide +kernel
theorem d_readScanHead_451 : decode c_M_readScanHead 451 = .ok (.aload_n 0, 1) := by decide +kernel
theorem d_readScanHead_452 : decode c_M_readScanHead 452 = .ok (.bipush 6, 2) := by decide +kernel
theorem d_readScanHead_454 : decode c_M_readScanHead 454 = .ok (.iload_n 2, 1) := by decide +kernel
theorem d_readScanHead_455 : decode c_M_readScanHead 455 = .ok (.invokevirtual 271, 3) := by decide +kernel
theorem d_readScanHead_458 : decode c_M_readScanHead 458 = .ok (.istore 5, 2) := by decide +kernel
theorem d_readScanHead_460 : decode c_M_readScanHead 460 = .ok (.aload_n 0, 1) := by decide +kernel
theorem d_readScanHead_461 : decode c_M_readScanHead 461 = .ok (.iload_n 1, 1) := by decide +kernel
theorem d_readScanHead_462 : decode c_M_readScanHead 462 = .ok (.putfield 302, 3) := by decide +kernel
theorem d_readScanHead_465 : decode c_M_readScanHead 465 = .ok (.iconst 0, 1) := by decide +kernel
theorem d_readScanHead_466 : decode c_M_readScanHead 466 = .ok (.istore 5, 2) := by decide +kernel
theorem d_readScanHead_468 : decode c_M_readScanHead 468 = .ok (.iload 5, 2) := by decide +kernel
theorem d_readScanHead_470 : decode c_M_readScanHead 470 = .ok (.iload_n 1, 1) := by decide +kernel
theorem d_readScanHead_471 : decode c_M_readScanHead 471 = .ok (.if_icmp .ge 86, 3) := by decide +kernel
theorem d_readScanHead_474 : decode c_M_readScanHead 474 = .ok (.aload_n 0, 1) := by decide +kernel
theorem d_readScanHead_475 : decode c_M_readScanHead 475 = .ok (.getfield 265, 3) := by decide +kernel
theorem d_readScanHead_478 : decode c_M_readScanHead 478 = .ok (.ifCond .ne 79, 3) := by decide +kernel
theorem d_readScanHead_481 : decode c_M_readScanHead 481 = .ok (.aload_n 0, 1) := by decide +kernel
theorem d_readScanHead_482 : decode c_M_readScanHead 482 = .ok (.getfield 127, 3) := by decide +kernel
theorem d_readScanHead_485 : decode c_M_readScanHead 485 = .ok (.aload_n 0, 1) := by decide +kernel
theorem d_readScanHead_486 : decode c_M_readScanHead 486 = .ok (.getfield 130, 3) := by decide +kernel
theorem d_readScanHead_489 : decode c_M_readScanHead 489 = .ok (.iload 5, 2) := by decide +kernel
theorem d_readScanHead_491 : decode c_M_readScanHead 491 = .ok (.iaload, 1) := by decide +kernel
theorem d_readScanHead_492 : decode c_M_readScanHead 492 = .ok (.iconst 1, 1) := by decide +kernel
theorem d_readScanHead_493 : decode c_M_readScanHead 493 = .ok (.bastore, 1) := by decide +kernel
theorem d_readScanHead_494 : decode c_M_readScanHead 494 = .ok (.iconst 0, 1) := by decide +kernel
theorem d_readScanHead_495 : decode c_M_readScanHead 495 = .ok (.istore 6, 2) := by decide +kernel
theorem d_readScanHead_497 : decode c_M_readScanHead 497 = .ok (.iload 6, 2) := by decide +kernel
theorem d_readScanHead_499 : decode c_M_readScanHead 499 = .ok (.bipush 64, 2) := by decide +kernel
theorem d_readScanHead_501 : decode c_M_readScanHead 501 = .ok (.if_icmp .ge 50, 3) := by decide +kernel
theorem d_readScanHead_504 : decode c_M_readScanHead 504 = .ok (.aload_n 0, 1) := by decide +kernel
theorem d_readScanHead_505 : decode c_M_readScanHead 505 = .ok (.getfield 124, 3) := by decide +kernel
theorem d_readScanHead_508 : decode c_M_readScanHead 508 = .ok (.bipush 64, 2) := by decide +kernel
theorem d_readScanHead_510 : decode c_M_readScanHead 510 = .ok (.aload_n 0, 1) := by decide +kernel
theorem d_readScanHead_511 : decode c_M_readScanHead 511 = .ok (.getfield 130, 3) := by decide +kernel
theorem d_readScanHead_514 : decode c_M_readScanHead 514 = .ok (.iload 5, 2) := by decide +kernel
theorem d_readScanHead_516 : decode c_M_readScanHead 516 = .ok (.iaload, 1) := by decide +kernel
theorem d_readScanHead_517 : decode c_M_readScanHead 517 = .ok (.imul, 1) := by decide +kernel
theorem d_readScanHead_518 : decode c_M_readScanHead 518 = .ok (.iload 6, 2) := by decide +kernel
theorem d_readScanHead_520 : decode c_M_readScanHead 520 = .ok (.iadd, 1) := by decide +kernel
theorem d_readScanHead_521 : decode c_M_readScanHead 521 = .ok (.aload_n 0, 1) := by decide +kernel
theorem d_readScanHead_522 : decode c_M_readScanHead 522 = .ok (.getfield 103, 3) := by decide +kernel
theorem d_readScanHead_525 : decode c_M_readScanHead 525 = .ok (.bipush 64, 2) := by decide +kernel
theorem d_readScanHead_527 : decode c_M_readScanHead 527 = .ok (.aload_n 0, 1) := by decide +kernel
theorem d_readScanHead_528 : decode c_M_readScanHead 528 = .ok (.getfield 121, 3) := by decide +kernel
theorem d_readScanHead_531 : decode c_M_readScanHead 531 = .ok (.aload_n 0, 1) := by decide +kernel
theorem d_readScanHead_532 : decode c_M_readScanHead 532 = .ok (.getfield 130, 3) := by decide +kernel
theorem d_readScanHead_535 : decode c_M_readScanHead 535 = .ok (.iload 5, 2) := by decide +kernel
theorem d_readScanHead_537 : decode c_M_readScanHead 537 = .ok (.iaload, 1) := by decide +kernel
theorem d_readScanHead_538 : decode c_M_readScanHead 538 = .ok (.iaload, 1) := by decide +kernel
theorem d_readScanHead_539 : decode c_M_readScanHead 539 = .ok (.imul, 1) := by decide +kernel
theorem d_readScanHead_540 : decode c_M_readScanHead 540 = .ok (.iload 6, 2) := by decide +kernel
theorem d_readScanHead_542 : decode c_M_readScanHead 542 = .ok (.iadd, 1) := by decide +kernel
theorem d_readScanHead_543 : decode c_M_readScanHead 543 = .ok (.iaload, 1) := by decide +kernel
theorem d_readScanHead_544 : decode c_M_readScanHead 544 = .ok (.iastore, 1) := by decide +kernel
theorem d_readScanHead_545 : decode c_M_readScanHead 545 = .ok (.iinc 6 1, 3) := by decide +kernel
theorem d_readScanHead_548 : decode c_M_readScanHead 548 = .ok (.goto (-51), 3) := by decide +kernel
theorem d_readScanHead_551 : decode c_M_readScanHead 551 = .ok (.iinc 5 1, 3) := by decide +kernel
theorem d_readScanHead_554 : decode c_M_readScanHead 554 = .ok (.goto (-86), 3) := by decide +kernel
theorem d_readScanHead_557 : decode c_M_readScanHead 557 = .ok (.return_, 1) := by decide +kernel
theorem d_readBit_0 : decode c_M_readBit 0 = .ok (.aload_n 0, 1) := by decide +kernel
theorem d_readBit_1 : decode c_M_readBit 1 = .ok (.getfield 305, 3) := by decide +kernel
theorem d_readBit_4 : decode c_M_readBit 4 = .ok (.ifCond .ne 69, 3) := by decide +kernel
theorem d_readBit_7 : decode c_M_readBit 7 = .ok (.aload_n 0, 1) := by decide +kernel
theorem d_readBit_8 : decode c_M_readBit 8 = .ok (.aload_n 0, 1) := by decide +kernel
theorem d_readBit_9 : decode c_M_readBit 9 = .ok (.getfield 268, 3) := by decide +kernel
theorem d_readBit_12 : decode c_M_readBit 12 = .ok (.putfield 308, 3) := by decide +kernel
theorem d_readBit_15 : decode c_M_readBit 15 = .ok (.aload_n 0, 1) := by decide +kernel
theorem d_readBit_16 : decode c_M_readBit 16 = .ok (.aload_n 0, 1) := by decide +kernel
theorem d_readBit_17 : decode c_M_readBit 17 = .ok (.invokevirtual 281, 3) := by decide +kernel
theorem d_readBit_20 : decode c_M_readBit 20 = .ok (.putfield 311, 3) := by decide +kernel
theorem d_readBit_23 : decode c_M_readBit 23 = .ok (.aload_n 0, 1) := by decide +kernel
theorem d_readBit_24 : decode c_M_readBit 24 = .ok (.getfield 265, 3) := by decide +kernel
theorem d_readBit_27 : decode c_M_readBit 27 = .ok (.ifCond .ne 40, 3) := by decide +kernel
theorem d_readBit_30 : decode c_M_readBit 30 = .ok (.aload_n 0, 1) := by decide +kernel
theorem d_readBit_31 : decode c_M_readBit 31 = .ok (.getfield 311, 3) := by decide +kernel
theorem d_readBit_34 : decode c_M_readBit 34 = .ok (.sipush 255, 3) := by decide +kernel
theorem d_readBit_37 : decode c_M_readBit 37 = .ok (.if_icmp .ne 30, 3) := by decide +kernel
theorem d_readBit_40 : decode c_M_readBit 40 = .ok (.aload_n 0, 1) := by decide +kernel
theorem d_readBit_41 : decode c_M_readBit 41 = .ok (.invokevirtual 281, 3) := by decide +kernel
theorem d_readBit_44 : decode c_M_readBit 44 = .ok (.istore_n 1, 1) := by decide +kernel
theorem d_readBit_45 : decode c_M_readBit 45 = .ok (.aload_n 0, 1) := by decide +kernel
theorem d_readBit_46 : decode c_M_readBit 46 = .ok (.getfield 265, 3) := by decide +kernel
theorem d_readBit_49 : decode c_M_readBit 49 = .ok (.ifCond .ne 18, 3) := by decide +kernel
theorem d_readBit_52 : decode c_M_readBit 52 = .ok (.iload_n 1, 1) := by decide +kernel
theorem d_readBit_53 : decode c_M_readBit 53 = .ok (.ifCond .eq 14, 3) := by decide +kernel
theorem d_readBit_56 : decode c_M_readBit 56 = .ok (.aload_n 0, 1) := by decide +kernel
theorem d_readBit_57 : decode c_M_readBit 57 = .ok (.bipush 7, 2) := by decide +kernel
theorem d_readBit_59 : decode c_M_readBit 59 = .ok (.aload_n 0, 1) := by decide +kernel
theorem d_readBit_60 : decode c_M_readBit 60 = .ok (.getfield 308, 3) := by decide +kernel
theorem d_readBit_63 : decode c_M_readBit 63 = .ok (.invokevirtual 271, 3) := by decide +kernel
theorem d_readBit_66 : decode c_M_readBit 66 = .ok (.istore_n 2, 1) := by decide +kernel
theorem d_readBit_67 : decode c_M_readBit 67 = .ok (.aload_n 0, 1) := by decide +kernel
theorem d_readBit_68 : decode c_M_readBit 68 = .ok (.bipush 8, 2) := by decide +kernel
theorem d_readBit_70 : decode c_M_readBit 70 = .ok (.putfield 305, 3) := by decide +kernel
theorem d_readBit_73 : decode c_M_readBit 73 = .ok (.aload_n 0, 1) := by decide +kernel
theorem d_readBit_74 : decode c_M_readBit 74 = .ok (.getfield 265, 3) := by decide +kernel
theorem d_readBit_77 : decode c_M_readBit 77 = .ok (.ifCond .le 5, 3) := by decide +kernel
theorem d_readBit_80 : decode c_M_readBit 80 = .ok (.iconst 0, 1) := by decide +kernel
theorem d_readBit_81 : decode c_M_readBit 81 = .ok (.ireturn, 1) := by decide +kernel
theorem d_readBit_82 : decode c_M_readBit 82 = .ok (.aload_n 0, 1) := by decide +kernel
theorem d_readBit_83 : decode c_M_readBit 83 = .ok (.dup, 1) := by decide +kernel
theorem d_readBit_84 : decode c_M_readBit 84 = .ok (.getfield 305, 3) := by decide +kernel
theorem d_readBit_87 : decode c_M_readBit 87 = .ok (.iconst 1, 1) := by decide +kernel
theorem d_readBit_88 : decode c_M_readBit 88 = .ok (.isub, 1) := by decide +kernel
theorem d_readBit_89 : decode c_M_readBit 89 = .ok (.putfield 305, 3) := by decide +kernel
theorem d_readBit_92 : decode c_M_readBit 92 = .ok (.aload_n 0, 1) := by decide +kernel
theorem d_readBit_93 : decode c_M_readBit 93 = .ok (.getfield 311, 3) := by decide +kernel
theorem d_readBit_96 : decode c_M_readBit 96 = .ok (.aload_n 0, 1) := by decide +kernel
theorem d_readBit_97 : decode c_M_readBit 97 = .ok (.getfield 305, 3) := by decide +kernel
theorem d_readBit_100 : decode c_M_readBit 100 = .ok (.ishr, 1) := by decide +kernel
theorem d_readBit_101 : decode c_M_readBit 101 = .ok (.iconst 1, 1) := by decide +kernel
theorem d_readBit_102 : decode c_M_readBit 102 = .ok (.iand, 1) := by decide +kernel
theorem d_readBit_103 : decode c_M_readBit 103 = .ok (.ireturn, 1) := by decide +kernel
